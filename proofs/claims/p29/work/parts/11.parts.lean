theorem zfm1 {x : Int32} (h : ∃ a : Nat, a < 11 ∧ x = nI a) : vp_in (f_J9_floorMod_7cf53_r (x + (1 : Int32)) (11 : Int32)) 11 := by
  obtain ⟨a, ha, rfl⟩ := h
  have k : ∀ a, a < 11 → 0 ≤ (f_J9_floorMod_7cf53_r (nI a + (1 : Int32)) (11 : Int32)).toInt ∧ (f_J9_floorMod_7cf53_r (nI a + (1 : Int32)) (11 : Int32)).toInt < 11 := by decide +kernel
  exact vp_in_iff.mpr (k a ha)
theorem zfm2 {x y : Int32} (h : ∃ a : Nat, a < 11 ∧ x = nI a) (h2 : ∃ a : Nat, a < 11 ∧ y = nI a) : vp_in (f_J9_floorMod_7cf53_r ((f_J9_floorMod_7cf53_r (x + (1 : Int32)) (11 : Int32)) - y) (11 : Int32)) 11 := by
  obtain ⟨a, ha, rfl⟩ := h
  obtain ⟨b, hb, rfl⟩ := h2
  have k : ∀ a, a < 11 → ∀ b, b < 11 → 0 ≤ (f_J9_floorMod_7cf53_r ((f_J9_floorMod_7cf53_r (nI a + (1 : Int32)) (11 : Int32)) - nI b) (11 : Int32)).toInt ∧ (f_J9_floorMod_7cf53_r ((f_J9_floorMod_7cf53_r (nI a + (1 : Int32)) (11 : Int32)) - nI b) (11 : Int32)).toInt < 11 := by decide +kernel
  exact vp_in_iff.mpr (k a ha b hb)
def f_X2_goOn_pme (pa1 pa2 pb pdt pld : Int32) (pme pmb : Int64) (plt : Int32) (po : Nat → Int64) (o1 : Int64) : Int64 := (f_X5_hold_r ((f_J9_floorDiv_f86c9_r (((pa1.toInt64 * pme) + (pa2.toInt64 * pmb)) + (pb.toInt64 * ((vp_updL po (f_J9_floorMod_7cf53_r (plt + (1 : Int32)) (11 : Int32)).toNatClampNeg o1) (f_J9_floorMod_7cf53_r ((f_J9_floorMod_7cf53_r (plt + (1 : Int32)) (11 : Int32)) - pdt) (11 : Int32)).toNatClampNeg))) (1000 : Int64)) + pld.toInt64) (-1000000 : Int64) (1000000 : Int64))
def f_X2_goOn_plt (plt : Int32) : Int32 := (f_J9_floorMod_7cf53_r (plt + (1 : Int32)) (11 : Int32))
def f_X2_goOn_po (plt : Int32) (po : Nat → Int64) (o1 : Int64) : Nat → Int64 := (vp_updL po (f_J9_floorMod_7cf53_r (plt + (1 : Int32)) (11 : Int32)).toNatClampNeg o1)
set_option maxHeartbeats 4000000 in
set_option maxRecDepth 100000 in
theorem c_X2_goOn (l : Launch) (dC : Nat → ClassId) (dI : Nat → Nat → Nat) (cI cJ cZ cO : ClassId) (adp : Nat) (pa1 pa2 pb pdt pld : Int32) (pme pmb : Int64) (ado : Nat) (plt : Int32) (po : Nat → Int64) (o1 : Int64) (sz : Nat) (hlt : ∃ a : Nat, a < 11 ∧ plt = nI a) (hdt : ∃ b : Nat, b < 11 ∧ pdt = nI b) : Met l yX2_goOn (Cond.code yX2_goOn cX2_goOn 7 none :: wAll) ({ frames := 2, cells := 0, slots := 0, locals := 42 }) (va_Pc [.ref adp, .long o1] (gP (dC, dI) [zX2 adp pa1 pa2 pb pdt pld pme pmb ado plt, zAJ cJ ado 11 po] (tyG cI cJ cZ cO) sz gN)) (va_Qv (fun (_ : Unit) => True) (fun _ t => gB (dC, dI) (va_A [zX2 adp pa1 pa2 pb pdt pld pme pmb ado plt, zAJ cJ ado 11 po] sz) [zX2 adp pa1 pa2 pb pdt pld (f_X2_goOn_pme pa1 pa2 pb pdt pld pme pmb plt po o1) pme ado (f_X2_goOn_plt plt), zAJ cJ ado 11 (f_X2_goOn_po plt po o1)] (tyG cI cJ cZ cO) t) (va_A [zX2 adp pa1 pa2 pb pdt pld pme pmb ado plt, zAJ cJ ado 11 po] sz)) 0 0 (va_A [zX2 adp pa1 pa2 pb pdt pld pme pmb ado plt, zAJ cJ ado 11 po] sz) := by
  refine Met.ofW (cc := cX2_goOn) (maxL := 7) (ret := none) (by decide) rfl ?_
  intro p e s m args below meth c s₁ B hml hv
  obtain ⟨rfl, hsz, hP, hK, hD0, hG⟩ := hv
  have hx := B.exec
  have hb := B.bytes
  have hr := B.returns
  have hts := ht_of B.pre
  have hown : s.vm.findClass RX2 = some m.cls := findClass_of_methodNamed B.named
  have hlocks := B.notSynchronized
  subst hsz
  have hD := hD0.self (sz := s.heap.size)
  generalize hAe : va_A [zX2 adp pa1 pa2 pb pdt pld pme pmb ado plt, zAJ cJ ado 11 po] s.heap.size = A at hD ⊢
  have hA : ∀ q : Nat, s.heap.size ≤ q → A q := fun q h => by rw [← hAe]; exact Or.inr h
  have hS : va_S A s.heap s.heap [] := va_S.rf
  have hP : va_P (dC, dI) vwCl [zX2 adp pa1 pa2 pb pdt pld pme pmb ado plt, zAJ cJ ado 11 po] s.heap := hP
  have hl := lv_entry ([.ref adp, .long o1]) (n := 7) (Nat.le_of_ble_eq_true rfl)
  rw [lg_entry_eq]
  generalize (lg_sl ([.ref adp, .long o1]) ++ List.replicate (7 - (lg_sl ([.ref adp, .long o1])).length) Slot.unset).toArray = ls at hl ⊢
  have hl : lv_has ls 7 [(0, .ref adp), (1, .long o1)] := hl
  refine hh_name (fun Q hQ => ?_)
  refine lv_aload_n hx hb dX2_goOn_0 rfl (lv_at hl 0 rfl) ?_
  refine lv_aload_n hx hb dX2_goOn_1 rfl (lv_at hl 0 rfl) ?_
  refine va_get (D := (dC, dI)) (ci := 2) (v := .int plt) (C := RX2) (T := TX2) (N := 9) hx hb hts inW_X2 hown hK hP 0 rfl rfl 8 (by decide) (hts _ wd_1_62) (fun _ h9 => h9) rfl dX2_goOn_2 ?_
  refine lv_iconst (v := 1) hx hb dX2_goOn_5 (by decide) ?_
  refine lv_iadd hx hb dX2_goOn_6 ?_
  refine lv_bipush (v := 11) hx hb dX2_goOn_7 (by decide) ?_
  refine hh_calli (w2 := [zX2 adp pa1 pa2 pb pdt pld pme pmb ado plt, zAJ cJ ado 11 po]) (va_runS (As := [.int (plt + (1 : Int32)), .int (11 : Int32)]) (rest := [.ref adp]) ⟨hx, hb, hml, hown, hts⟩ (c_J9_floorMod_7cf53 l dC dI cI cJ cZ cO (plt + (1 : Int32)) (11 : Int32) _ (by decide)) (va_cwS 2 hts (gd_S wd_3_171 wd_3_172 wd_1_13 wd_3_173) rfl rfl rfl (by decide +kernel) ⟨Nat.le_of_ble_eq_true rfl, Nat.le_of_ble_eq_true rfl⟩) (hh_pS gU_c (fun _ _ _ => trivial) hK hP hD [] rfl rfl) rfl rfl hl.1 rfl (lv_room (Nat.le_of_ble_eq_true rfl)) dX2_goOn_9 ⟨Nat.le_of_ble_eq_true rfl, Nat.le_of_ble_eq_true rfl⟩) hP hD hS hA [] [0, 1] [0, 1] rfl rfl rfl (by decide) rfl rfl (fun H locs hP hD hS => ?_)
  refine va_put (D := (dC, dI)) (ci := 2) (v := .int (f_J9_floorMod_7cf53_r (plt + (1 : Int32)) (11 : Int32))) (ty := .int) (C := RX2) (T := TX2) (N := 9) hx hb hts inW_X2 tyX2 tyX2_ok nmX2 hown hK hP hD hS 0 rfl rfl 8 (by decide) (hts _ wd_1_62) (fun _ h9 => h9) rfl (tyX2_ok 8 (by decide)) rfl rfl (Nat.le_of_ble_eq_true rfl) dX2_goOn_12 (fun H locs hP hD hS => ?_)
  have hP : va_P (dC, dI) vwCl [zX2 adp pa1 pa2 pb pdt pld pme pmb ado (f_J9_floorMod_7cf53_r (plt + (1 : Int32)) (11 : Int32)), zAJ cJ ado 11 po] H := hP
  have hD : va_D A [zX2 adp pa1 pa2 pb pdt pld pme pmb ado (f_J9_floorMod_7cf53_r (plt + (1 : Int32)) (11 : Int32)), zAJ cJ ado 11 po] := hD
  refine lv_aload_n hx hb dX2_goOn_15 rfl (lv_at hl 0 rfl) ?_
  refine va_get (D := (dC, dI)) (ci := 2) (v := .ref ado) (C := RX2) (T := TX2) (N := 9) hx hb hts inW_X2 hown hK hP 0 rfl rfl 7 (by decide) (hts _ wd_1_61) (fun _ h9 => h9) rfl dX2_goOn_16 ?_
  refine lv_aload_n hx hb dX2_goOn_19 rfl (lv_at hl 0 rfl) ?_
  refine va_get (D := (dC, dI)) (ci := 2) (v := .int (f_J9_floorMod_7cf53_r (plt + (1 : Int32)) (11 : Int32))) (C := RX2) (T := TX2) (N := 9) hx hb hts inW_X2 hown hK hP 0 rfl rfl 8 (by decide) (hts _ wd_1_62) (fun _ h9 => h9) rfl dX2_goOn_20 ?_
  refine lv_lload_n hx hb dX2_goOn_23 rfl (lv_at hl 1 rfl) ?_
  refine va_last hx hb hK hP hD hS 1 1 rfl rfl (i := (f_J9_floorMod_7cf53_r (plt + (1 : Int32)) (11 : Int32))) (zfm1 hlt) dX2_goOn_24 (fun H locs hP hD hS => ?_)
  have hP : va_P (dC, dI) vwCl [zX2 adp pa1 pa2 pb pdt pld pme pmb ado (f_J9_floorMod_7cf53_r (plt + (1 : Int32)) (11 : Int32)), zAJ cJ ado 11 (vp_updL po (f_J9_floorMod_7cf53_r (plt + (1 : Int32)) (11 : Int32)).toNatClampNeg o1)] H := hP
  have hD : va_D A [zX2 adp pa1 pa2 pb pdt pld pme pmb ado (f_J9_floorMod_7cf53_r (plt + (1 : Int32)) (11 : Int32)), zAJ cJ ado 11 (vp_updL po (f_J9_floorMod_7cf53_r (plt + (1 : Int32)) (11 : Int32)).toNatClampNeg o1)] := hD
  refine lv_aload_n hx hb dX2_goOn_25 rfl (lv_at hl 0 rfl) ?_
  refine va_get (D := (dC, dI)) (ci := 2) (v := .ref ado) (C := RX2) (T := TX2) (N := 9) hx hb hts inW_X2 hown hK hP 0 rfl rfl 7 (by decide) (hts _ wd_1_61) (fun _ h9 => h9) rfl dX2_goOn_26 ?_
  refine lv_aload_n hx hb dX2_goOn_29 rfl (lv_at hl 0 rfl) ?_
  refine va_get (D := (dC, dI)) (ci := 2) (v := .int (f_J9_floorMod_7cf53_r (plt + (1 : Int32)) (11 : Int32))) (C := RX2) (T := TX2) (N := 9) hx hb hts inW_X2 hown hK hP 0 rfl rfl 8 (by decide) (hts _ wd_1_62) (fun _ h9 => h9) rfl dX2_goOn_30 ?_
  refine lv_aload_n hx hb dX2_goOn_33 rfl (lv_at hl 0 rfl) ?_
  refine va_get (D := (dC, dI)) (ci := 2) (v := .int pdt) (C := RX2) (T := TX2) (N := 9) hx hb hts inW_X2 hown hK hP 0 rfl rfl 3 (by decide) (hts _ wd_1_51) (fun _ h9 => h9) rfl dX2_goOn_34 ?_
  refine lv_isub hx hb dX2_goOn_37 ?_
  refine lv_bipush (v := 11) hx hb dX2_goOn_38 (by decide) ?_
  refine hh_calli (w2 := [zX2 adp pa1 pa2 pb pdt pld pme pmb ado (f_J9_floorMod_7cf53_r (plt + (1 : Int32)) (11 : Int32)), zAJ cJ ado 11 (vp_updL po (f_J9_floorMod_7cf53_r (plt + (1 : Int32)) (11 : Int32)).toNatClampNeg o1)]) (va_runS (As := [.int ((f_J9_floorMod_7cf53_r (plt + (1 : Int32)) (11 : Int32)) - pdt), .int (11 : Int32)]) (rest := [.ref ado]) ⟨hx, hb, hml, hown, hts⟩ (c_J9_floorMod_7cf53 l dC dI cI cJ cZ cO ((f_J9_floorMod_7cf53_r (plt + (1 : Int32)) (11 : Int32)) - pdt) (11 : Int32) _ (by decide)) (va_cwS 2 hts (gd_S wd_3_171 wd_3_172 wd_1_13 wd_3_173) rfl rfl rfl (by decide +kernel) ⟨Nat.le_of_ble_eq_true rfl, Nat.le_of_ble_eq_true rfl⟩) (hh_pS gU_c (fun _ _ _ => trivial) hK hP hD [] rfl rfl) rfl rfl hl.1 rfl (lv_room (Nat.le_of_ble_eq_true rfl)) dX2_goOn_40 ⟨Nat.le_of_ble_eq_true rfl, Nat.le_of_ble_eq_true rfl⟩) hP hD hS hA [] [0, 1] [0, 1] rfl rfl rfl (by decide) rfl rfl (fun H locs hP hD hS => ?_)
  refine va_lald hx hb hK hP 1 1 rfl rfl (i := (f_J9_floorMod_7cf53_r ((f_J9_floorMod_7cf53_r (plt + (1 : Int32)) (11 : Int32)) - pdt) (11 : Int32))) (zfm2 hlt hdt) dX2_goOn_43 ?_
  refine lv_lstore_n (lv' := [(3, .long ((vp_updL po (f_J9_floorMod_7cf53_r (plt + (1 : Int32)) (11 : Int32)).toNatClampNeg o1) (f_J9_floorMod_7cf53_r ((f_J9_floorMod_7cf53_r (plt + (1 : Int32)) (11 : Int32)) - pdt) (11 : Int32)).toNatClampNeg)), (0, .ref adp), (1, .long o1)]) hx hb dX2_goOn_44 rfl hl (by decide) rfl (fun ls hl => ?_)
  refine lv_aload_n hx hb dX2_goOn_45 rfl (lv_at hl 1 rfl) ?_
  refine va_get (D := (dC, dI)) (ci := 2) (v := .int pa1) (C := RX2) (T := TX2) (N := 9) hx hb hts inW_X2 hown hK hP 0 rfl rfl 0 (by decide) (hts _ wd_1_45) (fun _ h9 => h9) rfl dX2_goOn_46 ?_
  refine lv_i2l hx hb dX2_goOn_49 rfl ?_
  refine lv_aload_n hx hb dX2_goOn_50 rfl (lv_at hl 1 rfl) ?_
  refine va_get (D := (dC, dI)) (ci := 2) (v := .long pme) (C := RX2) (T := TX2) (N := 9) hx hb hts inW_X2 hown hK hP 0 rfl rfl 5 (by decide) (hts _ wd_1_56) (fun _ h9 => h9) rfl dX2_goOn_51 ?_
  refine lv_lmul hx hb dX2_goOn_54 ?_
  refine lv_aload_n hx hb dX2_goOn_55 rfl (lv_at hl 1 rfl) ?_
  refine va_get (D := (dC, dI)) (ci := 2) (v := .int pa2) (C := RX2) (T := TX2) (N := 9) hx hb hts inW_X2 hown hK hP 0 rfl rfl 1 (by decide) (hts _ wd_1_47) (fun _ h9 => h9) rfl dX2_goOn_56 ?_
  refine lv_i2l hx hb dX2_goOn_59 rfl ?_
  refine lv_aload_n hx hb dX2_goOn_60 rfl (lv_at hl 1 rfl) ?_
  refine va_get (D := (dC, dI)) (ci := 2) (v := .long pmb) (C := RX2) (T := TX2) (N := 9) hx hb hts inW_X2 hown hK hP 0 rfl rfl 6 (by decide) (hts _ wd_1_59) (fun _ h9 => h9) rfl dX2_goOn_61 ?_
  refine lv_lmul hx hb dX2_goOn_64 ?_
  refine lv_ladd hx hb dX2_goOn_65 ?_
  refine lv_aload_n hx hb dX2_goOn_66 rfl (lv_at hl 1 rfl) ?_
  refine va_get (D := (dC, dI)) (ci := 2) (v := .int pb) (C := RX2) (T := TX2) (N := 9) hx hb hts inW_X2 hown hK hP 0 rfl rfl 2 (by decide) (hts _ wd_1_49) (fun _ h9 => h9) rfl dX2_goOn_67 ?_
  refine lv_i2l hx hb dX2_goOn_70 rfl ?_
  refine lv_lload_n hx hb dX2_goOn_71 rfl (lv_at hl 0 rfl) ?_
  refine lv_lmul hx hb dX2_goOn_72 ?_
  refine lv_ladd hx hb dX2_goOn_73 ?_
  refine lv_ldc2 (v := 1000) hx hb hown (hts _ wd_3_174) dX2_goOn_74 ?_
  refine hh_calll (w2 := [zX2 adp pa1 pa2 pb pdt pld pme pmb ado (f_J9_floorMod_7cf53_r (plt + (1 : Int32)) (11 : Int32)), zAJ cJ ado 11 (vp_updL po (f_J9_floorMod_7cf53_r (plt + (1 : Int32)) (11 : Int32)).toNatClampNeg o1)]) (va_runS (As := [.long (((pa1.toInt64 * pme) + (pa2.toInt64 * pmb)) + (pb.toInt64 * ((vp_updL po (f_J9_floorMod_7cf53_r (plt + (1 : Int32)) (11 : Int32)).toNatClampNeg o1) (f_J9_floorMod_7cf53_r ((f_J9_floorMod_7cf53_r (plt + (1 : Int32)) (11 : Int32)) - pdt) (11 : Int32)).toNatClampNeg))), .long (1000 : Int64)]) (rest := []) ⟨hx, hb, hml, hown, hts⟩ (c_J9_floorDiv_f86c9 l dC dI cI cJ cZ cO (((pa1.toInt64 * pme) + (pa2.toInt64 * pmb)) + (pb.toInt64 * ((vp_updL po (f_J9_floorMod_7cf53_r (plt + (1 : Int32)) (11 : Int32)).toNatClampNeg o1) (f_J9_floorMod_7cf53_r ((f_J9_floorMod_7cf53_r (plt + (1 : Int32)) (11 : Int32)) - pdt) (11 : Int32)).toNatClampNeg))) (1000 : Int64) _ (by decide)) (va_cwS 2 hts (gd_S wd_3_175 wd_3_142 wd_1_13 wd_3_143) rfl rfl rfl (by decide +kernel) ⟨Nat.le_of_ble_eq_true rfl, Nat.le_of_ble_eq_true rfl⟩) (hh_pS gU_c (fun _ _ _ => trivial) hK hP hD [] rfl rfl) rfl rfl hl.1 rfl (lv_room (Nat.le_of_ble_eq_true rfl)) dX2_goOn_77 ⟨Nat.le_of_ble_eq_true rfl, Nat.le_of_ble_eq_true rfl⟩) hP hD hS hA [] [0, 1] [0, 1] rfl rfl rfl (by decide) rfl rfl (fun H locs hP hD hS => ?_)
  refine lv_lstore (lv' := [(5, .long (f_J9_floorDiv_f86c9_r (((pa1.toInt64 * pme) + (pa2.toInt64 * pmb)) + (pb.toInt64 * ((vp_updL po (f_J9_floorMod_7cf53_r (plt + (1 : Int32)) (11 : Int32)).toNatClampNeg o1) (f_J9_floorMod_7cf53_r ((f_J9_floorMod_7cf53_r (plt + (1 : Int32)) (11 : Int32)) - pdt) (11 : Int32)).toNatClampNeg))) (1000 : Int64))), (3, .long ((vp_updL po (f_J9_floorMod_7cf53_r (plt + (1 : Int32)) (11 : Int32)).toNatClampNeg o1) (f_J9_floorMod_7cf53_r ((f_J9_floorMod_7cf53_r (plt + (1 : Int32)) (11 : Int32)) - pdt) (11 : Int32)).toNatClampNeg)), (0, .ref adp), (1, .long o1)]) hx hb dX2_goOn_80 hl (by decide) rfl (fun ls hl => ?_)
  refine lv_aload_n hx hb dX2_goOn_82 rfl (lv_at hl 2 rfl) ?_
  refine lv_aload_n hx hb dX2_goOn_83 rfl (lv_at hl 2 rfl) ?_
  refine va_get (D := (dC, dI)) (ci := 2) (v := .long pme) (C := RX2) (T := TX2) (N := 9) hx hb hts inW_X2 hown hK hP 0 rfl rfl 5 (by decide) (hts _ wd_1_56) (fun _ h9 => h9) rfl dX2_goOn_84 ?_
  refine va_put (D := (dC, dI)) (ci := 2) (v := .long pme) (ty := .long) (C := RX2) (T := TX2) (N := 9) hx hb hts inW_X2 tyX2 tyX2_ok nmX2 hown hK hP hD hS 0 rfl rfl 6 (by decide) (hts _ wd_1_59) (fun _ h9 => h9) rfl (tyX2_ok 6 (by decide)) rfl rfl (Nat.le_of_ble_eq_true rfl) dX2_goOn_87 (fun H locs hP hD hS => ?_)
  have hP : va_P (dC, dI) vwCl [zX2 adp pa1 pa2 pb pdt pld pme pme ado (f_J9_floorMod_7cf53_r (plt + (1 : Int32)) (11 : Int32)), zAJ cJ ado 11 (vp_updL po (f_J9_floorMod_7cf53_r (plt + (1 : Int32)) (11 : Int32)).toNatClampNeg o1)] H := hP
  have hD : va_D A [zX2 adp pa1 pa2 pb pdt pld pme pme ado (f_J9_floorMod_7cf53_r (plt + (1 : Int32)) (11 : Int32)), zAJ cJ ado 11 (vp_updL po (f_J9_floorMod_7cf53_r (plt + (1 : Int32)) (11 : Int32)).toNatClampNeg o1)] := hD
  refine lv_aload_n hx hb dX2_goOn_90 rfl (lv_at hl 2 rfl) ?_
  refine lv_lload hx hb dX2_goOn_91 (lv_at hl 0 rfl) ?_
  refine lv_aload_n hx hb dX2_goOn_93 rfl (lv_at hl 2 rfl) ?_
  refine va_get (D := (dC, dI)) (ci := 2) (v := .int pld) (C := RX2) (T := TX2) (N := 9) hx hb hts inW_X2 hown hK hP 0 rfl rfl 4 (by decide) (hts _ wd_1_53) (fun _ h9 => h9) rfl dX2_goOn_94 ?_
  refine lv_i2l hx hb dX2_goOn_97 rfl ?_
  refine lv_ladd hx hb dX2_goOn_98 ?_
  refine lv_ldc2 (v := -1000000) hx hb hown (hts _ wd_3_176) dX2_goOn_99 ?_
  refine lv_ldc2 (v := 1000000) hx hb hown (hts _ wd_3_177) dX2_goOn_102 ?_
  refine hh_calll (w2 := [zX2 adp pa1 pa2 pb pdt pld pme pme ado (f_J9_floorMod_7cf53_r (plt + (1 : Int32)) (11 : Int32)), zAJ cJ ado 11 (vp_updL po (f_J9_floorMod_7cf53_r (plt + (1 : Int32)) (11 : Int32)).toNatClampNeg o1)]) (va_runSN (As := [.long ((f_J9_floorDiv_f86c9_r (((pa1.toInt64 * pme) + (pa2.toInt64 * pmb)) + (pb.toInt64 * ((vp_updL po (f_J9_floorMod_7cf53_r (plt + (1 : Int32)) (11 : Int32)).toNatClampNeg o1) (f_J9_floorMod_7cf53_r ((f_J9_floorMod_7cf53_r (plt + (1 : Int32)) (11 : Int32)) - pdt) (11 : Int32)).toNatClampNeg))) (1000 : Int64)) + pld.toInt64), .long (-1000000 : Int64), .long (1000000 : Int64)]) (rest := [.ref adp]) ⟨hx, hb, hml, hown, hts⟩ (c_X5_hold l dC dI cI cJ cZ cO ((f_J9_floorDiv_f86c9_r (((pa1.toInt64 * pme) + (pa2.toInt64 * pmb)) + (pb.toInt64 * ((vp_updL po (f_J9_floorMod_7cf53_r (plt + (1 : Int32)) (11 : Int32)).toNatClampNeg o1) (f_J9_floorMod_7cf53_r ((f_J9_floorMod_7cf53_r (plt + (1 : Int32)) (11 : Int32)) - pdt) (11 : Int32)).toNatClampNeg))) (1000 : Int64)) + pld.toInt64) (-1000000 : Int64) (1000000 : Int64) _) ⟨va_cnB 3 hts (gd_I wd_3_88) rfl rfl rfl hG.2.2.2.2.2.2 (hts _ wd_1_1) (by decide +kernel) ⟨Nat.le_of_ble_eq_true rfl, Nat.le_of_ble_eq_true rfl⟩, hts _ wd_3_87, trivial⟩ (hh_pS gN_c (fun U _ hW => gN_w hW hG) hK hP hD [] rfl rfl) rfl rfl hl.1 rfl (lv_room (Nat.le_of_ble_eq_true rfl)) dX2_goOn_105 ⟨Nat.le_of_ble_eq_true rfl, Nat.le_of_ble_eq_true rfl⟩) hP hD hS hA [] [0, 1] [0, 1] rfl rfl rfl (by decide) rfl rfl (fun H locs hP hD hS => ?_)
  refine va_put (D := (dC, dI)) (ci := 2) (v := .long (f_X5_hold_r ((f_J9_floorDiv_f86c9_r (((pa1.toInt64 * pme) + (pa2.toInt64 * pmb)) + (pb.toInt64 * ((vp_updL po (f_J9_floorMod_7cf53_r (plt + (1 : Int32)) (11 : Int32)).toNatClampNeg o1) (f_J9_floorMod_7cf53_r ((f_J9_floorMod_7cf53_r (plt + (1 : Int32)) (11 : Int32)) - pdt) (11 : Int32)).toNatClampNeg))) (1000 : Int64)) + pld.toInt64) (-1000000 : Int64) (1000000 : Int64))) (ty := .long) (C := RX2) (T := TX2) (N := 9) hx hb hts inW_X2 tyX2 tyX2_ok nmX2 hown hK hP hD hS 0 rfl rfl 5 (by decide) (hts _ wd_1_56) (fun _ h9 => h9) rfl (tyX2_ok 5 (by decide)) rfl rfl (Nat.le_of_ble_eq_true rfl) dX2_goOn_108 (fun H locs hP hD hS => ?_)
  have hP : va_P (dC, dI) vwCl [zX2 adp pa1 pa2 pb pdt pld (f_X5_hold_r ((f_J9_floorDiv_f86c9_r (((pa1.toInt64 * pme) + (pa2.toInt64 * pmb)) + (pb.toInt64 * ((vp_updL po (f_J9_floorMod_7cf53_r (plt + (1 : Int32)) (11 : Int32)).toNatClampNeg o1) (f_J9_floorMod_7cf53_r ((f_J9_floorMod_7cf53_r (plt + (1 : Int32)) (11 : Int32)) - pdt) (11 : Int32)).toNatClampNeg))) (1000 : Int64)) + pld.toInt64) (-1000000 : Int64) (1000000 : Int64)) pme ado (f_J9_floorMod_7cf53_r (plt + (1 : Int32)) (11 : Int32)), zAJ cJ ado 11 (vp_updL po (f_J9_floorMod_7cf53_r (plt + (1 : Int32)) (11 : Int32)).toNatClampNeg o1)] H := hP
  have hD : va_D A [zX2 adp pa1 pa2 pb pdt pld (f_X5_hold_r ((f_J9_floorDiv_f86c9_r (((pa1.toInt64 * pme) + (pa2.toInt64 * pmb)) + (pb.toInt64 * ((vp_updL po (f_J9_floorMod_7cf53_r (plt + (1 : Int32)) (11 : Int32)).toNatClampNeg o1) (f_J9_floorMod_7cf53_r ((f_J9_floorMod_7cf53_r (plt + (1 : Int32)) (11 : Int32)) - pdt) (11 : Int32)).toNatClampNeg))) (1000 : Int64)) + pld.toInt64) (-1000000 : Int64) (1000000 : Int64)) pme ado (f_J9_floorMod_7cf53_r (plt + (1 : Int32)) (11 : Int32)), zAJ cJ ado 11 (vp_updL po (f_J9_floorMod_7cf53_r (plt + (1 : Int32)) (11 : Int32)).toNatClampNeg o1)] := hD
  exact hh_retv hQ hx hb hr hlocks hP hK hD hS dX2_goOn_111
def f_X4_hasPoints_j1_1 (sn : Int32) : Int32 := if sn ≤ (0 : Int32) then (0 : Int32) else (1 : Int32)
theorem f_X4_hasPoints_j1_1_z (sn : Int32) : narrow .boolean (.int (f_X4_hasPoints_j1_1 sn)) = .int (f_X4_hasPoints_j1_1 sn) := by
  unfold f_X4_hasPoints_j1_1
  repeat' split
  all_goals rfl
set_option maxHeartbeats 4000000 in
set_option maxRecDepth 100000 in
theorem c_X4_hasPoints (l : Launch) (dC : Nat → ClassId) (dI : Nat → Nat → Nat) (cI cJ cZ cO : ClassId) (ads : Nat) (sn : Int32) (adsm adsp adsi adsd : Nat) (sz : Nat)  : Met l yX4_hasPoints (Cond.code yX4_hasPoints cX4_hasPoints 1 (some .boolean) :: wAll) ({ frames := 0, cells := 0, slots := 0, locals := 0 }) (va_Pc [.ref ads] (gP (dC, dI) [zX4 ads sn adsm adsp adsi adsd] (tyG cI cJ cZ cO) sz gN)) (va_Qi (fun r (_ : Unit) => r = (f_X4_hasPoints_j1_1 sn)) (fun _ t => gB (dC, dI) (va_A [zX4 ads sn adsm adsp adsi adsd] sz) [zX4 ads sn adsm adsp adsi adsd] (tyG cI cJ cZ cO) t) (va_A [zX4 ads sn adsm adsp adsi adsd] sz)) 0 0 (va_A [zX4 ads sn adsm adsp adsi adsd] sz) := by
  refine Met.ofW (cc := cX4_hasPoints) (maxL := 1) (ret := (some .boolean)) (by decide) rfl ?_
  intro p e s m args below meth c s₁ B hml hv
  obtain ⟨rfl, hsz, hP, hK, hD0, hG⟩ := hv
  have hx := B.exec
  have hb := B.bytes
  have hr := B.returns
  have hts := ht_of B.pre
  have hown : s.vm.findClass RX4 = some m.cls := findClass_of_methodNamed B.named
  have hlocks := B.notSynchronized
  subst hsz
  have hD := hD0.self (sz := s.heap.size)
  generalize hAe : va_A [zX4 ads sn adsm adsp adsi adsd] s.heap.size = A at hD ⊢
  have hA : ∀ q : Nat, s.heap.size ≤ q → A q := fun q h => by rw [← hAe]; exact Or.inr h
  have hS : va_S A s.heap s.heap [] := va_S.rf
  have hP : va_P (dC, dI) vwCl [zX4 ads sn adsm adsp adsi adsd] s.heap := hP
  have hl := lv_entry ([.ref ads]) (n := 1) (Nat.le_of_ble_eq_true rfl)
  rw [lg_entry_eq]
  generalize (lg_sl ([.ref ads]) ++ List.replicate (1 - (lg_sl ([.ref ads])).length) Slot.unset).toArray = ls at hl ⊢
  have hl : lv_has ls 1 [(0, .ref ads)] := hl
  refine hh_name (fun Q hQ => ?_)
  refine lv_aload_n hx hb dX4_hasPoints_0 rfl (lv_at hl 0 rfl) ?_
  refine va_get (D := (dC, dI)) (ci := 4) (v := .int sn) (C := RX4) (T := TX4) (N := 5) hx hb hts inW_X4 hown hK hP 0 rfl rfl 0 (by decide) (hts _ wd_1_148) (fun _ h9 => h9) rfl dX4_hasPoints_1 ?_
  have J1 : ∀ (H : Heap) (locs : List Loc) (ls : Array Slot), va_P (dC, dI) vwCl [zX4 ads sn adsm adsp adsi adsd] H → va_D A [zX4 ads sn adsm adsp adsi adsd] → va_S A s.heap H locs → lv_has ls 1 [(0, .ref ads)] → W p l e (headSpec (Cond.code yX4_hasPoints cX4_hasPoints 1 (some .boolean) :: wAll) ({ frames := 0, cells := 0, slots := 0, locals := 0 })).room s m ([.ref ads] : List Value).toArray below meth c H locs 0 0 Q (F0 m 12 ls [.int (f_X4_hasPoints_j1_1 sn)]) := by
    intro H locs ls hP hD hS hl
    exact hh_retz hQ (rfl) (f_X4_hasPoints_j1_1_z sn) hx hb hr hlocks hP hK hD hS dX4_hasPoints_12
  refine lv_if_le (tgt := 11) hx hb dX4_hasPoints_4 (by decide) (fun h1 => ?_) (fun h1 => ?_)
  · skip
    refine lv_iconst (v := 0) hx hb dX4_hasPoints_11 (by decide) ?_
    have e2 : (f_X4_hasPoints_j1_1 sn) = (0 : Int32) := if_pos h1
    refine hh_seti (y := (f_X4_hasPoints_j1_1 sn)) (if_pos h1) ?_
    exact J1 _ _ _ (hP) (hD) hS (lv_sub hl [0] rfl)
  · skip
    refine lv_iconst (v := 1) hx hb dX4_hasPoints_7 (by decide) ?_
    refine lv_goto (tgt := 12) hx hb dX4_hasPoints_8 (by decide) ?_
    have e3 : (f_X4_hasPoints_j1_1 sn) = (1 : Int32) := if_neg h1
    refine hh_seti (y := (f_X4_hasPoints_j1_1 sn)) (if_neg h1) ?_
    exact J1 _ _ _ (hP) (hD) hS (lv_sub hl [0] rfl)
def f_X4_isFull_j1_1 (sn : Int32) : Int32 := if sn < (5 : Int32) then (0 : Int32) else (1 : Int32)
theorem f_X4_isFull_j1_1_z (sn : Int32) : narrow .boolean (.int (f_X4_isFull_j1_1 sn)) = .int (f_X4_isFull_j1_1 sn) := by
  unfold f_X4_isFull_j1_1
  repeat' split
  all_goals rfl
set_option maxHeartbeats 4000000 in
set_option maxRecDepth 100000 in
theorem c_X4_isFull (l : Launch) (dC : Nat → ClassId) (dI : Nat → Nat → Nat) (cI cJ cZ cO : ClassId) (ads : Nat) (sn : Int32) (adsm adsp adsi adsd : Nat) (sz : Nat)  : Met l yX4_isFull (Cond.code yX4_isFull cX4_isFull 1 (some .boolean) :: wAll) ({ frames := 0, cells := 0, slots := 0, locals := 0 }) (va_Pc [.ref ads] (gP (dC, dI) [zX4 ads sn adsm adsp adsi adsd] (tyG cI cJ cZ cO) sz gN)) (va_Qi (fun r (_ : Unit) => r = (f_X4_isFull_j1_1 sn)) (fun _ t => gB (dC, dI) (va_A [zX4 ads sn adsm adsp adsi adsd] sz) [zX4 ads sn adsm adsp adsi adsd] (tyG cI cJ cZ cO) t) (va_A [zX4 ads sn adsm adsp adsi adsd] sz)) 0 0 (va_A [zX4 ads sn adsm adsp adsi adsd] sz) := by
  refine Met.ofW (cc := cX4_isFull) (maxL := 1) (ret := (some .boolean)) (by decide) rfl ?_
  intro p e s m args below meth c s₁ B hml hv
  obtain ⟨rfl, hsz, hP, hK, hD0, hG⟩ := hv
  have hx := B.exec
  have hb := B.bytes
  have hr := B.returns
  have hts := ht_of B.pre
  have hown : s.vm.findClass RX4 = some m.cls := findClass_of_methodNamed B.named
  have hlocks := B.notSynchronized
  subst hsz
  have hD := hD0.self (sz := s.heap.size)
  generalize hAe : va_A [zX4 ads sn adsm adsp adsi adsd] s.heap.size = A at hD ⊢
  have hA : ∀ q : Nat, s.heap.size ≤ q → A q := fun q h => by rw [← hAe]; exact Or.inr h
  have hS : va_S A s.heap s.heap [] := va_S.rf
  have hP : va_P (dC, dI) vwCl [zX4 ads sn adsm adsp adsi adsd] s.heap := hP
  have hl := lv_entry ([.ref ads]) (n := 1) (Nat.le_of_ble_eq_true rfl)
  rw [lg_entry_eq]
  generalize (lg_sl ([.ref ads]) ++ List.replicate (1 - (lg_sl ([.ref ads])).length) Slot.unset).toArray = ls at hl ⊢
  have hl : lv_has ls 1 [(0, .ref ads)] := hl
  refine hh_name (fun Q hQ => ?_)
  refine lv_aload_n hx hb dX4_isFull_0 rfl (lv_at hl 0 rfl) ?_
  refine va_get (D := (dC, dI)) (ci := 4) (v := .int sn) (C := RX4) (T := TX4) (N := 5) hx hb hts inW_X4 hown hK hP 0 rfl rfl 0 (by decide) (hts _ wd_1_148) (fun _ h9 => h9) rfl dX4_isFull_1 ?_
  refine lv_iconst (v := 5) hx hb dX4_isFull_4 (by decide) ?_
  have J1 : ∀ (H : Heap) (locs : List Loc) (ls : Array Slot), va_P (dC, dI) vwCl [zX4 ads sn adsm adsp adsi adsd] H → va_D A [zX4 ads sn adsm adsp adsi adsd] → va_S A s.heap H locs → lv_has ls 1 [(0, .ref ads)] → W p l e (headSpec (Cond.code yX4_isFull cX4_isFull 1 (some .boolean) :: wAll) ({ frames := 0, cells := 0, slots := 0, locals := 0 })).room s m ([.ref ads] : List Value).toArray below meth c H locs 0 0 Q (F0 m 13 ls [.int (f_X4_isFull_j1_1 sn)]) := by
    intro H locs ls hP hD hS hl
    exact hh_retz hQ (rfl) (f_X4_isFull_j1_1_z sn) hx hb hr hlocks hP hK hD hS dX4_isFull_13
  refine lv_icmp_lt (tgt := 12) hx hb dX4_isFull_5 (by decide) (fun h1 => ?_) (fun h1 => ?_)
  · skip
    refine lv_iconst (v := 0) hx hb dX4_isFull_12 (by decide) ?_
    have e2 : (f_X4_isFull_j1_1 sn) = (0 : Int32) := if_pos h1
    refine hh_seti (y := (f_X4_isFull_j1_1 sn)) (if_pos h1) ?_
    exact J1 _ _ _ (hP) (hD) hS (lv_sub hl [0] rfl)
  · skip
    refine lv_iconst (v := 1) hx hb dX4_isFull_8 (by decide) ?_
    refine lv_goto (tgt := 13) hx hb dX4_isFull_9 (by decide) ?_
    have e3 : (f_X4_isFull_j1_1 sn) = (1 : Int32) := if_neg h1
    refine hh_seti (y := (f_X4_isFull_j1_1 sn)) (if_neg h1) ?_
    exact J1 _ _ _ (hP) (hD) hS (lv_sub hl [0] rfl)
def f_X4_endsBelow_j1_1 (sn : Int32) (gm : Nat → Int32) (me : Int32) : Int32 := if sn ≤ (0 : Int32) then (1 : Int32) else (if (5 : Int32) < sn then (1 : Int32) else (if me ≤ (gm (sn - (1 : Int32)).toNatClampNeg) then (0 : Int32) else (1 : Int32)))
theorem f_X4_endsBelow_j1_1_z (sn : Int32) (gm : Nat → Int32) (me : Int32) : narrow .boolean (.int (f_X4_endsBelow_j1_1 sn gm me)) = .int (f_X4_endsBelow_j1_1 sn gm me) := by
  unfold f_X4_endsBelow_j1_1
  repeat' split
  all_goals rfl
set_option maxHeartbeats 4000000 in
set_option maxRecDepth 100000 in
theorem c_X4_endsBelow (l : Launch) (dC : Nat → ClassId) (dI : Nat → Nat → Nat) (cI cJ cZ cO : ClassId) (ads : Nat) (sn : Int32) (adsm adsp adsi adsd : Nat) (gm : Nat → Int32) (me : Int32) (sz : Nat)  : Met l yX4_endsBelow (Cond.code yX4_endsBelow cX4_endsBelow 2 (some .boolean) :: wAll) ({ frames := 0, cells := 0, slots := 0, locals := 0 }) (va_Pc [.ref ads, .int me] (gP (dC, dI) [zX4 ads sn adsm adsp adsi adsd, zAI cI adsm 5 gm] (tyG cI cJ cZ cO) sz gN)) (va_Qi (fun r (_ : Unit) => r = (f_X4_endsBelow_j1_1 sn gm me)) (fun _ t => gB (dC, dI) (va_A [zX4 ads sn adsm adsp adsi adsd, zAI cI adsm 5 gm] sz) [zX4 ads sn adsm adsp adsi adsd, zAI cI adsm 5 gm] (tyG cI cJ cZ cO) t) (va_A [zX4 ads sn adsm adsp adsi adsd, zAI cI adsm 5 gm] sz)) 0 0 (va_A [zX4 ads sn adsm adsp adsi adsd, zAI cI adsm 5 gm] sz) := by
  refine Met.ofW (cc := cX4_endsBelow) (maxL := 2) (ret := (some .boolean)) (by decide) rfl ?_
  intro p e s m args below meth c s₁ B hml hv
  obtain ⟨rfl, hsz, hP, hK, hD0, hG⟩ := hv
  have hx := B.exec
  have hb := B.bytes
  have hr := B.returns
  have hts := ht_of B.pre
  have hown : s.vm.findClass RX4 = some m.cls := findClass_of_methodNamed B.named
  have hlocks := B.notSynchronized
  subst hsz
  have hD := hD0.self (sz := s.heap.size)
  generalize hAe : va_A [zX4 ads sn adsm adsp adsi adsd, zAI cI adsm 5 gm] s.heap.size = A at hD ⊢
  have hA : ∀ q : Nat, s.heap.size ≤ q → A q := fun q h => by rw [← hAe]; exact Or.inr h
  have hS : va_S A s.heap s.heap [] := va_S.rf
  have hP : va_P (dC, dI) vwCl [zX4 ads sn adsm adsp adsi adsd, zAI cI adsm 5 gm] s.heap := hP
  have hl := lv_entry ([.ref ads, .int me]) (n := 2) (Nat.le_of_ble_eq_true rfl)
  rw [lg_entry_eq]
  generalize (lg_sl ([.ref ads, .int me]) ++ List.replicate (2 - (lg_sl ([.ref ads, .int me])).length) Slot.unset).toArray = ls at hl ⊢
  have hl : lv_has ls 2 [(0, .ref ads), (1, .int me)] := hl
  refine hh_name (fun Q hQ => ?_)
  refine lv_aload_n hx hb dX4_endsBelow_0 rfl (lv_at hl 0 rfl) ?_
  refine va_get (D := (dC, dI)) (ci := 4) (v := .int sn) (C := RX4) (T := TX4) (N := 5) hx hb hts inW_X4 hown hK hP 0 rfl rfl 0 (by decide) (hts _ wd_1_148) (fun _ h9 => h9) rfl dX4_endsBelow_1 ?_
  have J1 : ∀ (H : Heap) (locs : List Loc) (ls : Array Slot), va_P (dC, dI) vwCl [zX4 ads sn adsm adsp adsi adsd, zAI cI adsm 5 gm] H → va_D A [zX4 ads sn adsm adsp adsi adsd, zAI cI adsm 5 gm] → va_S A s.heap H locs → lv_has ls 2 [(0, .ref ads), (1, .int me)] → W p l e (headSpec (Cond.code yX4_endsBelow cX4_endsBelow 2 (some .boolean) :: wAll) ({ frames := 0, cells := 0, slots := 0, locals := 0 })).room s m ([.ref ads, .int me] : List Value).toArray below meth c H locs 0 0 Q (F0 m 35 ls [.int (f_X4_endsBelow_j1_1 sn gm me)]) := by
    intro H locs ls hP hD hS hl
    exact hh_retz hQ (rfl) (f_X4_endsBelow_j1_1_z sn gm me) hx hb hr hlocks hP hK hD hS dX4_endsBelow_35
  refine lv_if_le (tgt := 30) hx hb dX4_endsBelow_4 (by decide) (fun h1 => ?_) (fun h1 => ?_)
  · skip
    refine lv_iconst (v := 1) hx hb dX4_endsBelow_30 (by decide) ?_
    refine lv_goto (tgt := 35) hx hb dX4_endsBelow_31 (by decide) ?_
    have e4 : (f_X4_endsBelow_j1_1 sn gm me) = (1 : Int32) := if_pos h1
    refine hh_seti (y := (f_X4_endsBelow_j1_1 sn gm me)) (if_pos h1) ?_
    exact J1 _ _ _ (hP) (hD) hS (lv_sub hl [0, 1] rfl)
  · skip
    refine lv_aload_n hx hb dX4_endsBelow_7 rfl (lv_at hl 0 rfl) ?_
    refine va_get (D := (dC, dI)) (ci := 4) (v := .int sn) (C := RX4) (T := TX4) (N := 5) hx hb hts inW_X4 hown hK hP 0 rfl rfl 0 (by decide) (hts _ wd_1_148) (fun _ h9 => h9) rfl dX4_endsBelow_8 ?_
    refine lv_iconst (v := 5) hx hb dX4_endsBelow_11 (by decide) ?_
    refine lv_icmp_gt (tgt := 30) hx hb dX4_endsBelow_12 (by decide) (fun h2 => ?_) (fun h2 => ?_)
    · skip
      refine lv_iconst (v := 1) hx hb dX4_endsBelow_30 (by decide) ?_
      refine lv_goto (tgt := 35) hx hb dX4_endsBelow_31 (by decide) ?_
      have e5 : (f_X4_endsBelow_j1_1 sn gm me) = (1 : Int32) := (if_neg h1).trans (if_pos h2)
      refine hh_seti (y := (f_X4_endsBelow_j1_1 sn gm me)) ((if_neg h1).trans (if_pos h2)) ?_
      exact J1 _ _ _ (hP) (hD) hS (lv_sub hl [0, 1] rfl)
    · skip
      refine lv_aload_n hx hb dX4_endsBelow_15 rfl (lv_at hl 0 rfl) ?_
      refine va_get (D := (dC, dI)) (ci := 4) (v := .ref adsm) (C := RX4) (T := TX4) (N := 5) hx hb hts inW_X4 hown hK hP 0 rfl rfl 1 (by decide) (hts _ wd_1_149) (fun _ h9 => h9) rfl dX4_endsBelow_16 ?_
      refine lv_aload_n hx hb dX4_endsBelow_19 rfl (lv_at hl 0 rfl) ?_
      refine va_get (D := (dC, dI)) (ci := 4) (v := .int sn) (C := RX4) (T := TX4) (N := 5) hx hb hts inW_X4 hown hK hP 0 rfl rfl 0 (by decide) (hts _ wd_1_148) (fun _ h9 => h9) rfl dX4_endsBelow_20 ?_
      refine lv_iconst (v := 1) hx hb dX4_endsBelow_23 (by decide) ?_
      refine lv_isub hx hb dX4_endsBelow_24 ?_
      refine va_iald hx hb hK hP 1 0 rfl rfl (i := (sn - (1 : Int32))) (ix_m1 (by assumption) (by assumption)) dX4_endsBelow_25 ?_
      refine lv_iload_n hx hb dX4_endsBelow_26 rfl (lv_at hl 1 rfl) ?_
      refine lv_icmp_ge (tgt := 34) hx hb dX4_endsBelow_27 (by decide) (fun h3 => ?_) (fun h3 => ?_)
      · skip
        refine lv_iconst (v := 0) hx hb dX4_endsBelow_34 (by decide) ?_
        have e6 : (f_X4_endsBelow_j1_1 sn gm me) = (0 : Int32) := (if_neg h1).trans ((if_neg h2).trans (if_pos h3))
        refine hh_seti (y := (f_X4_endsBelow_j1_1 sn gm me)) ((if_neg h1).trans ((if_neg h2).trans (if_pos h3))) ?_
        exact J1 _ _ _ (hP) (hD) hS (lv_sub hl [0, 1] rfl)
      · skip
        refine lv_iconst (v := 1) hx hb dX4_endsBelow_30 (by decide) ?_
        refine lv_goto (tgt := 35) hx hb dX4_endsBelow_31 (by decide) ?_
        have e7 : (f_X4_endsBelow_j1_1 sn gm me) = (1 : Int32) := (if_neg h1).trans ((if_neg h2).trans (if_neg h3))
        refine hh_seti (y := (f_X4_endsBelow_j1_1 sn gm me)) ((if_neg h1).trans ((if_neg h2).trans (if_neg h3))) ?_
        exact J1 _ _ _ (hP) (hD) hS (lv_sub hl [0, 1] rfl)
def f_X4_addLast_j1_1 (sn : Int32) : Int32 := if sn < (0 : Int32) then sn else (if (5 : Int32) ≤ sn then sn else (sn + (1 : Int32)))
def f_X4_addLast_j1_2 (sn : Int32) (gm : Nat → Int32) (me : Int32) : Nat → Int32 := if sn < (0 : Int32) then gm else (if (5 : Int32) ≤ sn then gm else (upd gm sn.toNatClampNeg me))
def f_X4_addLast_j1_3 (sn : Int32) (gp : Nat → Int32) (np : Int32) : Nat → Int32 := if sn < (0 : Int32) then gp else (if (5 : Int32) ≤ sn then gp else (upd gp sn.toNatClampNeg np))
def f_X4_addLast_j1_4 (sn : Int32) (gi : Nat → Int32) (ni : Int32) : Nat → Int32 := if sn < (0 : Int32) then gi else (if (5 : Int32) ≤ sn then gi else (upd gi sn.toNatClampNeg ni))
def f_X4_addLast_j1_5 (sn : Int32) (gd : Nat → Int32) (nd : Int32) : Nat → Int32 := if sn < (0 : Int32) then gd else (if (5 : Int32) ≤ sn then gd else (upd gd sn.toNatClampNeg nd))
set_option maxHeartbeats 4000000 in
set_option maxRecDepth 100000 in
theorem c_X4_addLast (l : Launch) (dC : Nat → ClassId) (dI : Nat → Nat → Nat) (cI cJ cZ cO : ClassId) (ads : Nat) (sn : Int32) (adsm adsp adsi adsd : Nat) (gm gp gi gd : Nat → Int32) (me np ni nd : Int32) (sz : Nat)  : Met l yX4_addLast (Cond.code yX4_addLast cX4_addLast 5 (some .int) :: wAll) ({ frames := 0, cells := 0, slots := 0, locals := 0 }) (va_Pc [.ref ads, .int me, .int np, .int ni, .int nd] (gP (dC, dI) [zX4 ads sn adsm adsp adsi adsd, zAI cI adsm 5 gm, zAI cI adsp 5 gp, zAI cI adsi 5 gi, zAI cI adsd 5 gd] (tyG cI cJ cZ cO) sz gN)) (va_Qi (fun r (_ : Unit) => r = (f_X4_addLast_j1_1 sn)) (fun _ t => gB (dC, dI) (va_A [zX4 ads sn adsm adsp adsi adsd, zAI cI adsm 5 gm, zAI cI adsp 5 gp, zAI cI adsi 5 gi, zAI cI adsd 5 gd] sz) [zX4 ads (f_X4_addLast_j1_1 sn) adsm adsp adsi adsd, zAI cI adsm 5 (f_X4_addLast_j1_2 sn gm me), zAI cI adsp 5 (f_X4_addLast_j1_3 sn gp np), zAI cI adsi 5 (f_X4_addLast_j1_4 sn gi ni), zAI cI adsd 5 (f_X4_addLast_j1_5 sn gd nd)] (tyG cI cJ cZ cO) t) (va_A [zX4 ads sn adsm adsp adsi adsd, zAI cI adsm 5 gm, zAI cI adsp 5 gp, zAI cI adsi 5 gi, zAI cI adsd 5 gd] sz)) 0 0 (va_A [zX4 ads sn adsm adsp adsi adsd, zAI cI adsm 5 gm, zAI cI adsp 5 gp, zAI cI adsi 5 gi, zAI cI adsd 5 gd] sz) := by
  refine Met.ofW (cc := cX4_addLast) (maxL := 5) (ret := (some .int)) (by decide) rfl ?_
  intro p e s m args below meth c s₁ B hml hv
  obtain ⟨rfl, hsz, hP, hK, hD0, hG⟩ := hv
  have hx := B.exec
  have hb := B.bytes
  have hr := B.returns
  have hts := ht_of B.pre
  have hown : s.vm.findClass RX4 = some m.cls := findClass_of_methodNamed B.named
  have hlocks := B.notSynchronized
  subst hsz
  have hD := hD0.self (sz := s.heap.size)
  generalize hAe : va_A [zX4 ads sn adsm adsp adsi adsd, zAI cI adsm 5 gm, zAI cI adsp 5 gp, zAI cI adsi 5 gi, zAI cI adsd 5 gd] s.heap.size = A at hD ⊢
  have hA : ∀ q : Nat, s.heap.size ≤ q → A q := fun q h => by rw [← hAe]; exact Or.inr h
  have hS : va_S A s.heap s.heap [] := va_S.rf
  have hP : va_P (dC, dI) vwCl [zX4 ads sn adsm adsp adsi adsd, zAI cI adsm 5 gm, zAI cI adsp 5 gp, zAI cI adsi 5 gi, zAI cI adsd 5 gd] s.heap := hP
  have hl := lv_entry ([.ref ads, .int me, .int np, .int ni, .int nd]) (n := 5) (Nat.le_of_ble_eq_true rfl)
  rw [lg_entry_eq]
  generalize (lg_sl ([.ref ads, .int me, .int np, .int ni, .int nd]) ++ List.replicate (5 - (lg_sl ([.ref ads, .int me, .int np, .int ni, .int nd])).length) Slot.unset).toArray = ls at hl ⊢
  have hl : lv_has ls 5 [(0, .ref ads), (1, .int me), (2, .int np), (3, .int ni), (4, .int nd)] := hl
  refine hh_name (fun Q hQ => ?_)
  refine lv_aload_n hx hb dX4_addLast_0 rfl (lv_at hl 0 rfl) ?_
  refine va_get (D := (dC, dI)) (ci := 4) (v := .int sn) (C := RX4) (T := TX4) (N := 5) hx hb hts inW_X4 hown hK hP 0 rfl rfl 0 (by decide) (hts _ wd_1_148) (fun _ h9 => h9) rfl dX4_addLast_1 ?_
  have J1 : ∀ (H : Heap) (locs : List Loc) (ls : Array Slot), va_P (dC, dI) vwCl [zX4 ads (f_X4_addLast_j1_1 sn) adsm adsp adsi adsd, zAI cI adsm 5 (f_X4_addLast_j1_2 sn gm me), zAI cI adsp 5 (f_X4_addLast_j1_3 sn gp np), zAI cI adsi 5 (f_X4_addLast_j1_4 sn gi ni), zAI cI adsd 5 (f_X4_addLast_j1_5 sn gd nd)] H → va_D A [zX4 ads (f_X4_addLast_j1_1 sn) adsm adsp adsi adsd, zAI cI adsm 5 (f_X4_addLast_j1_2 sn gm me), zAI cI adsp 5 (f_X4_addLast_j1_3 sn gp np), zAI cI adsi 5 (f_X4_addLast_j1_4 sn gi ni), zAI cI adsd 5 (f_X4_addLast_j1_5 sn gd nd)] → va_S A s.heap H locs → lv_has ls 5 [(0, .ref ads), (1, .int me), (2, .int np), (3, .int ni), (4, .int nd)] → W p l e (headSpec (Cond.code yX4_addLast cX4_addLast 5 (some .int) :: wAll) ({ frames := 0, cells := 0, slots := 0, locals := 0 })).room s m ([.ref ads, .int me, .int np, .int ni, .int nd] : List Value).toArray below meth c H locs 0 0 Q (F0 m 66 ls []) := by
    intro H locs ls hP hD hS hl
    refine lv_aload_n hx hb dX4_addLast_66 rfl (lv_at hl 0 rfl) ?_
    refine va_get (D := (dC, dI)) (ci := 4) (v := .int (f_X4_addLast_j1_1 sn)) (C := RX4) (T := TX4) (N := 5) hx hb hts inW_X4 hown hK hP 0 rfl rfl 0 (by decide) (hts _ wd_1_148) (fun _ h9 => h9) rfl dX4_addLast_67 ?_
    exact hh_reti hQ (rfl) hx hb hr hlocks hP hK hD hS dX4_addLast_70
  refine lv_if_lt (tgt := 66) hx hb dX4_addLast_4 (by decide) (fun h1 => ?_) (fun h1 => ?_)
  · skip
    have e3 : (f_X4_addLast_j1_1 sn) = sn := if_pos h1
    have e4 : (f_X4_addLast_j1_2 sn gm me) = gm := if_pos h1
    have e5 : (f_X4_addLast_j1_3 sn gp np) = gp := if_pos h1
    have e6 : (f_X4_addLast_j1_4 sn gi ni) = gi := if_pos h1
    have e7 : (f_X4_addLast_j1_5 sn gd nd) = gd := if_pos h1
    exact J1 _ _ _ (by rw [show (f_X4_addLast_j1_1 sn) = sn from if_pos h1, show (f_X4_addLast_j1_2 sn gm me) = gm from if_pos h1, show (f_X4_addLast_j1_3 sn gp np) = gp from if_pos h1, show (f_X4_addLast_j1_4 sn gi ni) = gi from if_pos h1, show (f_X4_addLast_j1_5 sn gd nd) = gd from if_pos h1]; exact hP) (by rw [show (f_X4_addLast_j1_1 sn) = sn from if_pos h1, show (f_X4_addLast_j1_2 sn gm me) = gm from if_pos h1, show (f_X4_addLast_j1_3 sn gp np) = gp from if_pos h1, show (f_X4_addLast_j1_4 sn gi ni) = gi from if_pos h1, show (f_X4_addLast_j1_5 sn gd nd) = gd from if_pos h1]; exact hD) hS (lv_sub hl [0, 1, 2, 3, 4] rfl)
  · skip
    refine lv_aload_n hx hb dX4_addLast_7 rfl (lv_at hl 0 rfl) ?_
    refine va_get (D := (dC, dI)) (ci := 4) (v := .int sn) (C := RX4) (T := TX4) (N := 5) hx hb hts inW_X4 hown hK hP 0 rfl rfl 0 (by decide) (hts _ wd_1_148) (fun _ h9 => h9) rfl dX4_addLast_8 ?_
    refine lv_iconst (v := 5) hx hb dX4_addLast_11 (by decide) ?_
    refine lv_icmp_ge (tgt := 66) hx hb dX4_addLast_12 (by decide) (fun h2 => ?_) (fun h2 => ?_)
    · skip
      have e8 : (f_X4_addLast_j1_1 sn) = sn := (if_neg h1).trans (if_pos h2)
      have e9 : (f_X4_addLast_j1_2 sn gm me) = gm := (if_neg h1).trans (if_pos h2)
      have e10 : (f_X4_addLast_j1_3 sn gp np) = gp := (if_neg h1).trans (if_pos h2)
      have e11 : (f_X4_addLast_j1_4 sn gi ni) = gi := (if_neg h1).trans (if_pos h2)
      have e12 : (f_X4_addLast_j1_5 sn gd nd) = gd := (if_neg h1).trans (if_pos h2)
      exact J1 _ _ _ (by rw [show (f_X4_addLast_j1_1 sn) = sn from (if_neg h1).trans (if_pos h2), show (f_X4_addLast_j1_2 sn gm me) = gm from (if_neg h1).trans (if_pos h2), show (f_X4_addLast_j1_3 sn gp np) = gp from (if_neg h1).trans (if_pos h2), show (f_X4_addLast_j1_4 sn gi ni) = gi from (if_neg h1).trans (if_pos h2), show (f_X4_addLast_j1_5 sn gd nd) = gd from (if_neg h1).trans (if_pos h2)]; exact hP) (by rw [show (f_X4_addLast_j1_1 sn) = sn from (if_neg h1).trans (if_pos h2), show (f_X4_addLast_j1_2 sn gm me) = gm from (if_neg h1).trans (if_pos h2), show (f_X4_addLast_j1_3 sn gp np) = gp from (if_neg h1).trans (if_pos h2), show (f_X4_addLast_j1_4 sn gi ni) = gi from (if_neg h1).trans (if_pos h2), show (f_X4_addLast_j1_5 sn gd nd) = gd from (if_neg h1).trans (if_pos h2)]; exact hD) hS (lv_sub hl [0, 1, 2, 3, 4] rfl)
    · skip
      refine lv_aload_n hx hb dX4_addLast_15 rfl (lv_at hl 0 rfl) ?_
      refine va_get (D := (dC, dI)) (ci := 4) (v := .ref adsm) (C := RX4) (T := TX4) (N := 5) hx hb hts inW_X4 hown hK hP 0 rfl rfl 1 (by decide) (hts _ wd_1_149) (fun _ h9 => h9) rfl dX4_addLast_16 ?_
      refine lv_aload_n hx hb dX4_addLast_19 rfl (lv_at hl 0 rfl) ?_
      refine va_get (D := (dC, dI)) (ci := 4) (v := .int sn) (C := RX4) (T := TX4) (N := 5) hx hb hts inW_X4 hown hK hP 0 rfl rfl 0 (by decide) (hts _ wd_1_148) (fun _ h9 => h9) rfl dX4_addLast_20 ?_
      refine lv_iload_n hx hb dX4_addLast_23 rfl (lv_at hl 1 rfl) ?_
      refine va_iast hx hb hK hP hD hS 1 0 rfl rfl (i := sn) (ix_5 (by assumption) (by assumption)) dX4_addLast_24 (fun H locs hP hD hS => ?_)
      have hP : va_P (dC, dI) vwCl [zX4 ads sn adsm adsp adsi adsd, zAI cI adsm 5 (upd gm sn.toNatClampNeg me), zAI cI adsp 5 gp, zAI cI adsi 5 gi, zAI cI adsd 5 gd] H := hP
      have hD : va_D A [zX4 ads sn adsm adsp adsi adsd, zAI cI adsm 5 (upd gm sn.toNatClampNeg me), zAI cI adsp 5 gp, zAI cI adsi 5 gi, zAI cI adsd 5 gd] := hD
      refine lv_aload_n hx hb dX4_addLast_25 rfl (lv_at hl 0 rfl) ?_
      refine va_get (D := (dC, dI)) (ci := 4) (v := .ref adsp) (C := RX4) (T := TX4) (N := 5) hx hb hts inW_X4 hown hK hP 0 rfl rfl 2 (by decide) (hts _ wd_1_150) (fun _ h9 => h9) rfl dX4_addLast_26 ?_
      refine lv_aload_n hx hb dX4_addLast_29 rfl (lv_at hl 0 rfl) ?_
      refine va_get (D := (dC, dI)) (ci := 4) (v := .int sn) (C := RX4) (T := TX4) (N := 5) hx hb hts inW_X4 hown hK hP 0 rfl rfl 0 (by decide) (hts _ wd_1_148) (fun _ h9 => h9) rfl dX4_addLast_30 ?_
      refine lv_iload_n hx hb dX4_addLast_33 rfl (lv_at hl 2 rfl) ?_
      refine va_iast hx hb hK hP hD hS 2 0 rfl rfl (i := sn) (ix_5 (by assumption) (by assumption)) dX4_addLast_34 (fun H locs hP hD hS => ?_)
      have hP : va_P (dC, dI) vwCl [zX4 ads sn adsm adsp adsi adsd, zAI cI adsm 5 (upd gm sn.toNatClampNeg me), zAI cI adsp 5 (upd gp sn.toNatClampNeg np), zAI cI adsi 5 gi, zAI cI adsd 5 gd] H := hP
      have hD : va_D A [zX4 ads sn adsm adsp adsi adsd, zAI cI adsm 5 (upd gm sn.toNatClampNeg me), zAI cI adsp 5 (upd gp sn.toNatClampNeg np), zAI cI adsi 5 gi, zAI cI adsd 5 gd] := hD
      refine lv_aload_n hx hb dX4_addLast_35 rfl (lv_at hl 0 rfl) ?_
      refine va_get (D := (dC, dI)) (ci := 4) (v := .ref adsi) (C := RX4) (T := TX4) (N := 5) hx hb hts inW_X4 hown hK hP 0 rfl rfl 3 (by decide) (hts _ wd_1_151) (fun _ h9 => h9) rfl dX4_addLast_36 ?_
      refine lv_aload_n hx hb dX4_addLast_39 rfl (lv_at hl 0 rfl) ?_
      refine va_get (D := (dC, dI)) (ci := 4) (v := .int sn) (C := RX4) (T := TX4) (N := 5) hx hb hts inW_X4 hown hK hP 0 rfl rfl 0 (by decide) (hts _ wd_1_148) (fun _ h9 => h9) rfl dX4_addLast_40 ?_
      refine lv_iload_n hx hb dX4_addLast_43 rfl (lv_at hl 3 rfl) ?_
      refine va_iast hx hb hK hP hD hS 3 0 rfl rfl (i := sn) (ix_5 (by assumption) (by assumption)) dX4_addLast_44 (fun H locs hP hD hS => ?_)
      have hP : va_P (dC, dI) vwCl [zX4 ads sn adsm adsp adsi adsd, zAI cI adsm 5 (upd gm sn.toNatClampNeg me), zAI cI adsp 5 (upd gp sn.toNatClampNeg np), zAI cI adsi 5 (upd gi sn.toNatClampNeg ni), zAI cI adsd 5 gd] H := hP
      have hD : va_D A [zX4 ads sn adsm adsp adsi adsd, zAI cI adsm 5 (upd gm sn.toNatClampNeg me), zAI cI adsp 5 (upd gp sn.toNatClampNeg np), zAI cI adsi 5 (upd gi sn.toNatClampNeg ni), zAI cI adsd 5 gd] := hD
      refine lv_aload_n hx hb dX4_addLast_45 rfl (lv_at hl 0 rfl) ?_
      refine va_get (D := (dC, dI)) (ci := 4) (v := .ref adsd) (C := RX4) (T := TX4) (N := 5) hx hb hts inW_X4 hown hK hP 0 rfl rfl 4 (by decide) (hts _ wd_1_152) (fun _ h9 => h9) rfl dX4_addLast_46 ?_
      refine lv_aload_n hx hb dX4_addLast_49 rfl (lv_at hl 0 rfl) ?_
      refine va_get (D := (dC, dI)) (ci := 4) (v := .int sn) (C := RX4) (T := TX4) (N := 5) hx hb hts inW_X4 hown hK hP 0 rfl rfl 0 (by decide) (hts _ wd_1_148) (fun _ h9 => h9) rfl dX4_addLast_50 ?_
      refine lv_iload hx hb dX4_addLast_53 (lv_at hl 4 rfl) ?_
      refine va_iast hx hb hK hP hD hS 4 0 rfl rfl (i := sn) (ix_5 (by assumption) (by assumption)) dX4_addLast_55 (fun H locs hP hD hS => ?_)
      have hP : va_P (dC, dI) vwCl [zX4 ads sn adsm adsp adsi adsd, zAI cI adsm 5 (upd gm sn.toNatClampNeg me), zAI cI adsp 5 (upd gp sn.toNatClampNeg np), zAI cI adsi 5 (upd gi sn.toNatClampNeg ni), zAI cI adsd 5 (upd gd sn.toNatClampNeg nd)] H := hP
      have hD : va_D A [zX4 ads sn adsm adsp adsi adsd, zAI cI adsm 5 (upd gm sn.toNatClampNeg me), zAI cI adsp 5 (upd gp sn.toNatClampNeg np), zAI cI adsi 5 (upd gi sn.toNatClampNeg ni), zAI cI adsd 5 (upd gd sn.toNatClampNeg nd)] := hD
      refine lv_aload_n hx hb dX4_addLast_56 rfl (lv_at hl 0 rfl) ?_
      refine lv_dup hx hb dX4_addLast_57 rfl ?_
      refine va_get (D := (dC, dI)) (ci := 4) (v := .int sn) (C := RX4) (T := TX4) (N := 5) hx hb hts inW_X4 hown hK hP 0 rfl rfl 0 (by decide) (hts _ wd_1_148) (fun _ h9 => h9) rfl dX4_addLast_58 ?_
      refine lv_iconst (v := 1) hx hb dX4_addLast_61 (by decide) ?_
      refine lv_iadd hx hb dX4_addLast_62 ?_
      refine va_put (D := (dC, dI)) (ci := 4) (v := .int (sn + (1 : Int32))) (ty := .int) (C := RX4) (T := TX4) (N := 5) hx hb hts inW_X4 tyX4 tyX4_ok nmX4 hown hK hP hD hS 0 rfl rfl 0 (by decide) (hts _ wd_1_148) (fun _ h9 => h9) rfl (tyX4_ok 0 (by decide)) rfl rfl (Nat.le_of_ble_eq_true rfl) dX4_addLast_63 (fun H locs hP hD hS => ?_)
      have hP : va_P (dC, dI) vwCl [zX4 ads (sn + (1 : Int32)) adsm adsp adsi adsd, zAI cI adsm 5 (upd gm sn.toNatClampNeg me), zAI cI adsp 5 (upd gp sn.toNatClampNeg np), zAI cI adsi 5 (upd gi sn.toNatClampNeg ni), zAI cI adsd 5 (upd gd sn.toNatClampNeg nd)] H := hP
      have hD : va_D A [zX4 ads (sn + (1 : Int32)) adsm adsp adsi adsd, zAI cI adsm 5 (upd gm sn.toNatClampNeg me), zAI cI adsp 5 (upd gp sn.toNatClampNeg np), zAI cI adsi 5 (upd gi sn.toNatClampNeg ni), zAI cI adsd 5 (upd gd sn.toNatClampNeg nd)] := hD
      have e13 : (f_X4_addLast_j1_1 sn) = (sn + (1 : Int32)) := (if_neg h1).trans (if_neg h2)
      have e14 : (f_X4_addLast_j1_2 sn gm me) = (upd gm sn.toNatClampNeg me) := (if_neg h1).trans (if_neg h2)
      have e15 : (f_X4_addLast_j1_3 sn gp np) = (upd gp sn.toNatClampNeg np) := (if_neg h1).trans (if_neg h2)
      have e16 : (f_X4_addLast_j1_4 sn gi ni) = (upd gi sn.toNatClampNeg ni) := (if_neg h1).trans (if_neg h2)
      have e17 : (f_X4_addLast_j1_5 sn gd nd) = (upd gd sn.toNatClampNeg nd) := (if_neg h1).trans (if_neg h2)
      exact J1 _ _ _ (by rw [show (f_X4_addLast_j1_1 sn) = (sn + (1 : Int32)) from (if_neg h1).trans (if_neg h2), show (f_X4_addLast_j1_2 sn gm me) = (upd gm sn.toNatClampNeg me) from (if_neg h1).trans (if_neg h2), show (f_X4_addLast_j1_3 sn gp np) = (upd gp sn.toNatClampNeg np) from (if_neg h1).trans (if_neg h2), show (f_X4_addLast_j1_4 sn gi ni) = (upd gi sn.toNatClampNeg ni) from (if_neg h1).trans (if_neg h2), show (f_X4_addLast_j1_5 sn gd nd) = (upd gd sn.toNatClampNeg nd) from (if_neg h1).trans (if_neg h2)]; exact hP) (by rw [show (f_X4_addLast_j1_1 sn) = (sn + (1 : Int32)) from (if_neg h1).trans (if_neg h2), show (f_X4_addLast_j1_2 sn gm me) = (upd gm sn.toNatClampNeg me) from (if_neg h1).trans (if_neg h2), show (f_X4_addLast_j1_3 sn gp np) = (upd gp sn.toNatClampNeg np) from (if_neg h1).trans (if_neg h2), show (f_X4_addLast_j1_4 sn gi ni) = (upd gi sn.toNatClampNeg ni) from (if_neg h1).trans (if_neg h2), show (f_X4_addLast_j1_5 sn gd nd) = (upd gd sn.toNatClampNeg nd) from (if_neg h1).trans (if_neg h2)]; exact hD) hS (lv_sub hl [0, 1, 2, 3, 4] rfl)
set_option maxHeartbeats 4000000 in
set_option maxRecDepth 100000 in
theorem c_X4_takeAway (l : Launch) (dC : Nat → ClassId) (dI : Nat → Nat → Nat) (cI cJ cZ cO : ClassId) (ads : Nat) (sn : Int32) (adsm adsp adsi adsd : Nat) (sz : Nat)  : Met l yX4_takeAway (Cond.code yX4_takeAway cX4_takeAway 2 (some .int) :: wAll) ({ frames := 0, cells := 0, slots := 0, locals := 0 }) (va_Pc [.ref ads] (gP (dC, dI) [zX4 ads sn adsm adsp adsi adsd] (tyG cI cJ cZ cO) sz gN)) (va_Qi (fun r (_ : Unit) => r = sn) (fun _ t => gB (dC, dI) (va_A [zX4 ads sn adsm adsp adsi adsd] sz) [zX4 ads (0 : Int32) adsm adsp adsi adsd] (tyG cI cJ cZ cO) t) (va_A [zX4 ads sn adsm adsp adsi adsd] sz)) 0 0 (va_A [zX4 ads sn adsm adsp adsi adsd] sz) := by
  refine Met.ofW (cc := cX4_takeAway) (maxL := 2) (ret := (some .int)) (by decide) rfl ?_
  intro p e s m args below meth c s₁ B hml hv
  obtain ⟨rfl, hsz, hP, hK, hD0, hG⟩ := hv
  have hx := B.exec
  have hb := B.bytes
  have hr := B.returns
  have hts := ht_of B.pre
  have hown : s.vm.findClass RX4 = some m.cls := findClass_of_methodNamed B.named
  have hlocks := B.notSynchronized
  subst hsz
  have hD := hD0.self (sz := s.heap.size)
  generalize hAe : va_A [zX4 ads sn adsm adsp adsi adsd] s.heap.size = A at hD ⊢
  have hA : ∀ q : Nat, s.heap.size ≤ q → A q := fun q h => by rw [← hAe]; exact Or.inr h
  have hS : va_S A s.heap s.heap [] := va_S.rf
  have hP : va_P (dC, dI) vwCl [zX4 ads sn adsm adsp adsi adsd] s.heap := hP
  have hl := lv_entry ([.ref ads]) (n := 2) (Nat.le_of_ble_eq_true rfl)
  rw [lg_entry_eq]
  generalize (lg_sl ([.ref ads]) ++ List.replicate (2 - (lg_sl ([.ref ads])).length) Slot.unset).toArray = ls at hl ⊢
  have hl : lv_has ls 2 [(0, .ref ads)] := hl
  refine hh_name (fun Q hQ => ?_)
  refine lv_aload_n hx hb dX4_takeAway_0 rfl (lv_at hl 0 rfl) ?_
  refine va_get (D := (dC, dI)) (ci := 4) (v := .int sn) (C := RX4) (T := TX4) (N := 5) hx hb hts inW_X4 hown hK hP 0 rfl rfl 0 (by decide) (hts _ wd_1_148) (fun _ h9 => h9) rfl dX4_takeAway_1 ?_
  refine lv_istore_n (lv' := [(1, .int sn), (0, .ref ads)]) hx hb dX4_takeAway_4 rfl hl (by decide) rfl (fun ls hl => ?_)
  refine lv_aload_n hx hb dX4_takeAway_5 rfl (lv_at hl 1 rfl) ?_
  refine lv_iconst (v := 0) hx hb dX4_takeAway_6 (by decide) ?_
  refine va_put (D := (dC, dI)) (ci := 4) (v := .int (0 : Int32)) (ty := .int) (C := RX4) (T := TX4) (N := 5) hx hb hts inW_X4 tyX4 tyX4_ok nmX4 hown hK hP hD hS 0 rfl rfl 0 (by decide) (hts _ wd_1_148) (fun _ h9 => h9) rfl (tyX4_ok 0 (by decide)) rfl rfl (Nat.le_of_ble_eq_true rfl) dX4_takeAway_7 (fun H locs hP hD hS => ?_)
  have hP : va_P (dC, dI) vwCl [zX4 ads (0 : Int32) adsm adsp adsi adsd] H := hP
  have hD : va_D A [zX4 ads (0 : Int32) adsm adsp adsi adsd] := hD
  refine lv_iload_n hx hb dX4_takeAway_10 rfl (lv_at hl 0 rfl) ?_
  exact hh_reti hQ (rfl) hx hb hr hlocks hP hK hD hS dX4_takeAway_11
def f_X4_pointsReached_j1_1 (sn : Int32) (gm : Nat → Int32) (mv : Int64) : Int32 := if sn ≤ (0 : Int32) then (0 : Int32) else (if mv < (gm (0 : Int32).toNatClampNeg).toInt64 then (0 : Int32) else (if sn ≤ (1 : Int32) then (1 : Int32) else (if mv < (gm (1 : Int32).toNatClampNeg).toInt64 then (1 : Int32) else (if sn ≤ (2 : Int32) then (2 : Int32) else (if mv < (gm (2 : Int32).toNatClampNeg).toInt64 then (2 : Int32) else (if sn ≤ (3 : Int32) then (3 : Int32) else (if mv < (gm (3 : Int32).toNatClampNeg).toInt64 then (3 : Int32) else (if sn ≤ (4 : Int32) then (4 : Int32) else (if mv < (gm (4 : Int32).toNatClampNeg).toInt64 then (4 : Int32) else (5 : Int32))))))))))
set_option maxHeartbeats 4000000 in
set_option maxRecDepth 100000 in
theorem c_X4_pointsReached (l : Launch) (dC : Nat → ClassId) (dI : Nat → Nat → Nat) (cI cJ cZ cO : ClassId) (ads : Nat) (sn : Int32) (adsm adsp adsi adsd : Nat) (gm : Nat → Int32) (mv : Int64) (sz : Nat)  : Met l yX4_pointsReached (Cond.code yX4_pointsReached cX4_pointsReached 4 (some .int) :: wAll) ({ frames := 0, cells := 0, slots := 0, locals := 0 }) (va_Pc [.ref ads, .long mv] (gP (dC, dI) [zX4 ads sn adsm adsp adsi adsd, zAI cI adsm 5 gm] (tyG cI cJ cZ cO) sz gN)) (va_Qi (fun r (_ : Unit) => r = (f_X4_pointsReached_j1_1 sn gm mv)) (fun _ t => gB (dC, dI) (va_A [zX4 ads sn adsm adsp adsi adsd, zAI cI adsm 5 gm] sz) [zX4 ads sn adsm adsp adsi adsd, zAI cI adsm 5 gm] (tyG cI cJ cZ cO) t) (va_A [zX4 ads sn adsm adsp adsi adsd, zAI cI adsm 5 gm] sz)) 0 0 (va_A [zX4 ads sn adsm adsp adsi adsd, zAI cI adsm 5 gm] sz) := by
  refine Met.ofW (cc := cX4_pointsReached) (maxL := 4) (ret := (some .int)) (by decide) rfl ?_
  intro p e s m args below meth c s₁ B hml hv
  obtain ⟨rfl, hsz, hP, hK, hD0, hG⟩ := hv
  have hx := B.exec
  have hb := B.bytes
  have hr := B.returns
  have hts := ht_of B.pre
  have hown : s.vm.findClass RX4 = some m.cls := findClass_of_methodNamed B.named
  have hlocks := B.notSynchronized
  subst hsz
  have hD := hD0.self (sz := s.heap.size)
  generalize hAe : va_A [zX4 ads sn adsm adsp adsi adsd, zAI cI adsm 5 gm] s.heap.size = A at hD ⊢
  have hA : ∀ q : Nat, s.heap.size ≤ q → A q := fun q h => by rw [← hAe]; exact Or.inr h
  have hS : va_S A s.heap s.heap [] := va_S.rf
  have hP : va_P (dC, dI) vwCl [zX4 ads sn adsm adsp adsi adsd, zAI cI adsm 5 gm] s.heap := hP
  have hl := lv_entry ([.ref ads, .long mv]) (n := 4) (Nat.le_of_ble_eq_true rfl)
  rw [lg_entry_eq]
  generalize (lg_sl ([.ref ads, .long mv]) ++ List.replicate (4 - (lg_sl ([.ref ads, .long mv])).length) Slot.unset).toArray = ls at hl ⊢
  have hl : lv_has ls 4 [(0, .ref ads), (1, .long mv)] := hl
  refine hh_name (fun Q hQ => ?_)
  refine lv_iconst (v := 0) hx hb dX4_pointsReached_0 (by decide) ?_
  refine lv_istore_n (lv' := [(3, .int (0 : Int32)), (0, .ref ads), (1, .long mv)]) hx hb dX4_pointsReached_1 rfl hl (by decide) rfl (fun ls hl => ?_)
  refine lv_iload_n hx hb dX4_pointsReached_2 rfl (lv_at hl 0 rfl) ?_
  refine lv_aload_n hx hb dX4_pointsReached_3 rfl (lv_at hl 1 rfl) ?_
  refine va_get (D := (dC, dI)) (ci := 4) (v := .int sn) (C := RX4) (T := TX4) (N := 5) hx hb hts inW_X4 hown hK hP 0 rfl rfl 0 (by decide) (hts _ wd_1_148) (fun _ h9 => h9) rfl dX4_pointsReached_4 ?_
  have J1 : ∀ (H : Heap) (locs : List Loc) (ls : Array Slot), va_P (dC, dI) vwCl [zX4 ads sn adsm adsp adsi adsd, zAI cI adsm 5 gm] H → va_D A [zX4 ads sn adsm adsp adsi adsd, zAI cI adsm 5 gm] → va_S A s.heap H locs → lv_has ls 4 [(3, .int (f_X4_pointsReached_j1_1 sn gm mv)), (0, .ref ads), (1, .long mv)] → W p l e (headSpec (Cond.code yX4_pointsReached cX4_pointsReached 4 (some .int) :: wAll) ({ frames := 0, cells := 0, slots := 0, locals := 0 })).room s m ([.ref ads, .long mv] : List Value).toArray below meth c H locs 0 0 Q (F0 m 33 ls []) := by
    intro H locs ls hP hD hS hl
    refine lv_iload_n hx hb dX4_pointsReached_33 rfl (lv_at hl 0 rfl) ?_
    exact hh_reti hQ (rfl) hx hb hr hlocks hP hK hD hS dX4_pointsReached_34
  refine lv_icmp_ge (tgt := 33) hx hb dX4_pointsReached_7 (by decide) (fun h1 => ?_) (fun h1 => ?_)
  · skip
    have e12 : (f_X4_pointsReached_j1_1 sn gm mv) = (0 : Int32) := if_pos h1
    exact J1 _ _ _ (hP) (hD) hS (by rw [show (f_X4_pointsReached_j1_1 sn gm mv) = (0 : Int32) from if_pos h1]; exact lv_sub hl [0, 1, 2] rfl)
  · skip
    refine lv_iload_n hx hb dX4_pointsReached_10 rfl (lv_at hl 0 rfl) ?_
    refine lv_iconst (v := 5) hx hb dX4_pointsReached_11 (by decide) ?_
    refine lv_icmp_ge (tgt := 33) hx hb dX4_pointsReached_12 (by decide) (fun h9 => absurd h9 (by decide)) (fun _ => ?_)
    refine lv_aload_n hx hb dX4_pointsReached_15 rfl (lv_at hl 1 rfl) ?_
    refine va_get (D := (dC, dI)) (ci := 4) (v := .ref adsm) (C := RX4) (T := TX4) (N := 5) hx hb hts inW_X4 hown hK hP 0 rfl rfl 1 (by decide) (hts _ wd_1_149) (fun _ h9 => h9) rfl dX4_pointsReached_16 ?_
    refine lv_iload_n hx hb dX4_pointsReached_19 rfl (lv_at hl 0 rfl) ?_
    refine va_iald hx hb hK hP 1 0 rfl rfl (i := (0 : Int32)) (ix_d (by decide)) dX4_pointsReached_20 ?_
    refine lv_i2l hx hb dX4_pointsReached_21 rfl ?_
    refine lv_lload_n hx hb dX4_pointsReached_22 rfl (lv_at hl 2 rfl) ?_
    refine hh_cgt (tgt := 33) hx hb dX4_pointsReached_23 dX4_pointsReached_24 (by decide) (fun h2 => ?_) (fun h2 => ?_)
    · skip
      have e13 : (f_X4_pointsReached_j1_1 sn gm mv) = (0 : Int32) := (if_neg h1).trans (if_pos h2)
      exact J1 _ _ _ (hP) (hD) hS (by rw [show (f_X4_pointsReached_j1_1 sn gm mv) = (0 : Int32) from (if_neg h1).trans (if_pos h2)]; exact lv_sub hl [0, 1, 2] rfl)
    · skip
      refine lv_iinc (v := (1 : Int32)) (lv' := [(3, .int (1 : Int32)), (0, .ref ads), (1, .long mv)]) hx hb dX4_pointsReached_27 hl (k := 0) rfl (by decide) (by decide) rfl (fun ls hl => ?_)
      refine lv_goto (tgt := 2) hx hb dX4_pointsReached_30 (by decide) ?_
      refine lv_iload_n hx hb dX4_pointsReached_2 rfl (lv_at hl 0 rfl) ?_
      refine lv_aload_n hx hb dX4_pointsReached_3 rfl (lv_at hl 1 rfl) ?_
      refine va_get (D := (dC, dI)) (ci := 4) (v := .int sn) (C := RX4) (T := TX4) (N := 5) hx hb hts inW_X4 hown hK hP 0 rfl rfl 0 (by decide) (hts _ wd_1_148) (fun _ h9 => h9) rfl dX4_pointsReached_4 ?_
      refine lv_icmp_ge (tgt := 33) hx hb dX4_pointsReached_7 (by decide) (fun h3 => ?_) (fun h3 => ?_)
      · skip
        have e14 : (f_X4_pointsReached_j1_1 sn gm mv) = (1 : Int32) := (if_neg h1).trans ((if_neg h2).trans (if_pos h3))
        exact J1 _ _ _ (hP) (hD) hS (by rw [show (f_X4_pointsReached_j1_1 sn gm mv) = (1 : Int32) from (if_neg h1).trans ((if_neg h2).trans (if_pos h3))]; exact lv_sub hl [0, 1, 2] rfl)
      · skip
        refine lv_iload_n hx hb dX4_pointsReached_10 rfl (lv_at hl 0 rfl) ?_
        refine lv_iconst (v := 5) hx hb dX4_pointsReached_11 (by decide) ?_
        refine lv_icmp_ge (tgt := 33) hx hb dX4_pointsReached_12 (by decide) (fun h9 => absurd h9 (by decide)) (fun _ => ?_)
        refine lv_aload_n hx hb dX4_pointsReached_15 rfl (lv_at hl 1 rfl) ?_
        refine va_get (D := (dC, dI)) (ci := 4) (v := .ref adsm) (C := RX4) (T := TX4) (N := 5) hx hb hts inW_X4 hown hK hP 0 rfl rfl 1 (by decide) (hts _ wd_1_149) (fun _ h9 => h9) rfl dX4_pointsReached_16 ?_
        refine lv_iload_n hx hb dX4_pointsReached_19 rfl (lv_at hl 0 rfl) ?_
        refine va_iald hx hb hK hP 1 0 rfl rfl (i := (1 : Int32)) (ix_d (by decide)) dX4_pointsReached_20 ?_
        refine lv_i2l hx hb dX4_pointsReached_21 rfl ?_
        refine lv_lload_n hx hb dX4_pointsReached_22 rfl (lv_at hl 2 rfl) ?_
        refine hh_cgt (tgt := 33) hx hb dX4_pointsReached_23 dX4_pointsReached_24 (by decide) (fun h4 => ?_) (fun h4 => ?_)
        · skip
          have e15 : (f_X4_pointsReached_j1_1 sn gm mv) = (1 : Int32) := (if_neg h1).trans ((if_neg h2).trans ((if_neg h3).trans (if_pos h4)))
          exact J1 _ _ _ (hP) (hD) hS (by rw [show (f_X4_pointsReached_j1_1 sn gm mv) = (1 : Int32) from (if_neg h1).trans ((if_neg h2).trans ((if_neg h3).trans (if_pos h4)))]; exact lv_sub hl [0, 1, 2] rfl)
        · skip
          refine lv_iinc (v := (2 : Int32)) (lv' := [(3, .int (2 : Int32)), (0, .ref ads), (1, .long mv)]) hx hb dX4_pointsReached_27 hl (k := 0) rfl (by decide) (by decide) rfl (fun ls hl => ?_)
          refine lv_goto (tgt := 2) hx hb dX4_pointsReached_30 (by decide) ?_
          refine lv_iload_n hx hb dX4_pointsReached_2 rfl (lv_at hl 0 rfl) ?_
          refine lv_aload_n hx hb dX4_pointsReached_3 rfl (lv_at hl 1 rfl) ?_
          refine va_get (D := (dC, dI)) (ci := 4) (v := .int sn) (C := RX4) (T := TX4) (N := 5) hx hb hts inW_X4 hown hK hP 0 rfl rfl 0 (by decide) (hts _ wd_1_148) (fun _ h9 => h9) rfl dX4_pointsReached_4 ?_
          refine lv_icmp_ge (tgt := 33) hx hb dX4_pointsReached_7 (by decide) (fun h5 => ?_) (fun h5 => ?_)
          · skip
            have e16 : (f_X4_pointsReached_j1_1 sn gm mv) = (2 : Int32) := (if_neg h1).trans ((if_neg h2).trans ((if_neg h3).trans ((if_neg h4).trans (if_pos h5))))
            exact J1 _ _ _ (hP) (hD) hS (by rw [show (f_X4_pointsReached_j1_1 sn gm mv) = (2 : Int32) from (if_neg h1).trans ((if_neg h2).trans ((if_neg h3).trans ((if_neg h4).trans (if_pos h5))))]; exact lv_sub hl [0, 1, 2] rfl)
          · skip
            refine lv_iload_n hx hb dX4_pointsReached_10 rfl (lv_at hl 0 rfl) ?_
            refine lv_iconst (v := 5) hx hb dX4_pointsReached_11 (by decide) ?_
            refine lv_icmp_ge (tgt := 33) hx hb dX4_pointsReached_12 (by decide) (fun h9 => absurd h9 (by decide)) (fun _ => ?_)
            refine lv_aload_n hx hb dX4_pointsReached_15 rfl (lv_at hl 1 rfl) ?_
            refine va_get (D := (dC, dI)) (ci := 4) (v := .ref adsm) (C := RX4) (T := TX4) (N := 5) hx hb hts inW_X4 hown hK hP 0 rfl rfl 1 (by decide) (hts _ wd_1_149) (fun _ h9 => h9) rfl dX4_pointsReached_16 ?_
            refine lv_iload_n hx hb dX4_pointsReached_19 rfl (lv_at hl 0 rfl) ?_
            refine va_iald hx hb hK hP 1 0 rfl rfl (i := (2 : Int32)) (ix_d (by decide)) dX4_pointsReached_20 ?_
            refine lv_i2l hx hb dX4_pointsReached_21 rfl ?_
            refine lv_lload_n hx hb dX4_pointsReached_22 rfl (lv_at hl 2 rfl) ?_
            refine hh_cgt (tgt := 33) hx hb dX4_pointsReached_23 dX4_pointsReached_24 (by decide) (fun h6 => ?_) (fun h6 => ?_)
            · skip
              have e17 : (f_X4_pointsReached_j1_1 sn gm mv) = (2 : Int32) := (if_neg h1).trans ((if_neg h2).trans ((if_neg h3).trans ((if_neg h4).trans ((if_neg h5).trans (if_pos h6)))))
              exact J1 _ _ _ (hP) (hD) hS (by rw [show (f_X4_pointsReached_j1_1 sn gm mv) = (2 : Int32) from (if_neg h1).trans ((if_neg h2).trans ((if_neg h3).trans ((if_neg h4).trans ((if_neg h5).trans (if_pos h6)))))]; exact lv_sub hl [0, 1, 2] rfl)
            · skip
              refine lv_iinc (v := (3 : Int32)) (lv' := [(3, .int (3 : Int32)), (0, .ref ads), (1, .long mv)]) hx hb dX4_pointsReached_27 hl (k := 0) rfl (by decide) (by decide) rfl (fun ls hl => ?_)
              refine lv_goto (tgt := 2) hx hb dX4_pointsReached_30 (by decide) ?_
              refine lv_iload_n hx hb dX4_pointsReached_2 rfl (lv_at hl 0 rfl) ?_
              refine lv_aload_n hx hb dX4_pointsReached_3 rfl (lv_at hl 1 rfl) ?_
              refine va_get (D := (dC, dI)) (ci := 4) (v := .int sn) (C := RX4) (T := TX4) (N := 5) hx hb hts inW_X4 hown hK hP 0 rfl rfl 0 (by decide) (hts _ wd_1_148) (fun _ h9 => h9) rfl dX4_pointsReached_4 ?_
              refine lv_icmp_ge (tgt := 33) hx hb dX4_pointsReached_7 (by decide) (fun h7 => ?_) (fun h7 => ?_)
              · skip
                have e18 : (f_X4_pointsReached_j1_1 sn gm mv) = (3 : Int32) := (if_neg h1).trans ((if_neg h2).trans ((if_neg h3).trans ((if_neg h4).trans ((if_neg h5).trans ((if_neg h6).trans (if_pos h7))))))
                exact J1 _ _ _ (hP) (hD) hS (by rw [show (f_X4_pointsReached_j1_1 sn gm mv) = (3 : Int32) from (if_neg h1).trans ((if_neg h2).trans ((if_neg h3).trans ((if_neg h4).trans ((if_neg h5).trans ((if_neg h6).trans (if_pos h7))))))]; exact lv_sub hl [0, 1, 2] rfl)
              · skip
                refine lv_iload_n hx hb dX4_pointsReached_10 rfl (lv_at hl 0 rfl) ?_
                refine lv_iconst (v := 5) hx hb dX4_pointsReached_11 (by decide) ?_
                refine lv_icmp_ge (tgt := 33) hx hb dX4_pointsReached_12 (by decide) (fun h9 => absurd h9 (by decide)) (fun _ => ?_)
                refine lv_aload_n hx hb dX4_pointsReached_15 rfl (lv_at hl 1 rfl) ?_
                refine va_get (D := (dC, dI)) (ci := 4) (v := .ref adsm) (C := RX4) (T := TX4) (N := 5) hx hb hts inW_X4 hown hK hP 0 rfl rfl 1 (by decide) (hts _ wd_1_149) (fun _ h9 => h9) rfl dX4_pointsReached_16 ?_
                refine lv_iload_n hx hb dX4_pointsReached_19 rfl (lv_at hl 0 rfl) ?_
                refine va_iald hx hb hK hP 1 0 rfl rfl (i := (3 : Int32)) (ix_d (by decide)) dX4_pointsReached_20 ?_
                refine lv_i2l hx hb dX4_pointsReached_21 rfl ?_
                refine lv_lload_n hx hb dX4_pointsReached_22 rfl (lv_at hl 2 rfl) ?_
                refine hh_cgt (tgt := 33) hx hb dX4_pointsReached_23 dX4_pointsReached_24 (by decide) (fun h8 => ?_) (fun h8 => ?_)
                · skip
                  have e19 : (f_X4_pointsReached_j1_1 sn gm mv) = (3 : Int32) := (if_neg h1).trans ((if_neg h2).trans ((if_neg h3).trans ((if_neg h4).trans ((if_neg h5).trans ((if_neg h6).trans ((if_neg h7).trans (if_pos h8)))))))
                  exact J1 _ _ _ (hP) (hD) hS (by rw [show (f_X4_pointsReached_j1_1 sn gm mv) = (3 : Int32) from (if_neg h1).trans ((if_neg h2).trans ((if_neg h3).trans ((if_neg h4).trans ((if_neg h5).trans ((if_neg h6).trans ((if_neg h7).trans (if_pos h8)))))))]; exact lv_sub hl [0, 1, 2] rfl)
                · skip
                  refine lv_iinc (v := (4 : Int32)) (lv' := [(3, .int (4 : Int32)), (0, .ref ads), (1, .long mv)]) hx hb dX4_pointsReached_27 hl (k := 0) rfl (by decide) (by decide) rfl (fun ls hl => ?_)
                  refine lv_goto (tgt := 2) hx hb dX4_pointsReached_30 (by decide) ?_
                  refine lv_iload_n hx hb dX4_pointsReached_2 rfl (lv_at hl 0 rfl) ?_
                  refine lv_aload_n hx hb dX4_pointsReached_3 rfl (lv_at hl 1 rfl) ?_
                  refine va_get (D := (dC, dI)) (ci := 4) (v := .int sn) (C := RX4) (T := TX4) (N := 5) hx hb hts inW_X4 hown hK hP 0 rfl rfl 0 (by decide) (hts _ wd_1_148) (fun _ h9 => h9) rfl dX4_pointsReached_4 ?_
                  refine lv_icmp_ge (tgt := 33) hx hb dX4_pointsReached_7 (by decide) (fun h9 => ?_) (fun h9 => ?_)
                  · skip
                    have e20 : (f_X4_pointsReached_j1_1 sn gm mv) = (4 : Int32) := (if_neg h1).trans ((if_neg h2).trans ((if_neg h3).trans ((if_neg h4).trans ((if_neg h5).trans ((if_neg h6).trans ((if_neg h7).trans ((if_neg h8).trans (if_pos h9))))))))
                    exact J1 _ _ _ (hP) (hD) hS (by rw [show (f_X4_pointsReached_j1_1 sn gm mv) = (4 : Int32) from (if_neg h1).trans ((if_neg h2).trans ((if_neg h3).trans ((if_neg h4).trans ((if_neg h5).trans ((if_neg h6).trans ((if_neg h7).trans ((if_neg h8).trans (if_pos h9))))))))]; exact lv_sub hl [0, 1, 2] rfl)
                  · skip
                    refine lv_iload_n hx hb dX4_pointsReached_10 rfl (lv_at hl 0 rfl) ?_
                    refine lv_iconst (v := 5) hx hb dX4_pointsReached_11 (by decide) ?_
                    refine lv_icmp_ge (tgt := 33) hx hb dX4_pointsReached_12 (by decide) (fun h9 => absurd h9 (by decide)) (fun _ => ?_)
                    refine lv_aload_n hx hb dX4_pointsReached_15 rfl (lv_at hl 1 rfl) ?_
                    refine va_get (D := (dC, dI)) (ci := 4) (v := .ref adsm) (C := RX4) (T := TX4) (N := 5) hx hb hts inW_X4 hown hK hP 0 rfl rfl 1 (by decide) (hts _ wd_1_149) (fun _ h9 => h9) rfl dX4_pointsReached_16 ?_
                    refine lv_iload_n hx hb dX4_pointsReached_19 rfl (lv_at hl 0 rfl) ?_
                    refine va_iald hx hb hK hP 1 0 rfl rfl (i := (4 : Int32)) (ix_d (by decide)) dX4_pointsReached_20 ?_
                    refine lv_i2l hx hb dX4_pointsReached_21 rfl ?_
                    refine lv_lload_n hx hb dX4_pointsReached_22 rfl (lv_at hl 2 rfl) ?_
                    refine hh_cgt (tgt := 33) hx hb dX4_pointsReached_23 dX4_pointsReached_24 (by decide) (fun h10 => ?_) (fun h10 => ?_)
                    · skip
                      have e21 : (f_X4_pointsReached_j1_1 sn gm mv) = (4 : Int32) := (if_neg h1).trans ((if_neg h2).trans ((if_neg h3).trans ((if_neg h4).trans ((if_neg h5).trans ((if_neg h6).trans ((if_neg h7).trans ((if_neg h8).trans ((if_neg h9).trans (if_pos h10)))))))))
                      exact J1 _ _ _ (hP) (hD) hS (by rw [show (f_X4_pointsReached_j1_1 sn gm mv) = (4 : Int32) from (if_neg h1).trans ((if_neg h2).trans ((if_neg h3).trans ((if_neg h4).trans ((if_neg h5).trans ((if_neg h6).trans ((if_neg h7).trans ((if_neg h8).trans ((if_neg h9).trans (if_pos h10)))))))))]; exact lv_sub hl [0, 1, 2] rfl)
                    · skip
                      refine lv_iinc (v := (5 : Int32)) (lv' := [(3, .int (5 : Int32)), (0, .ref ads), (1, .long mv)]) hx hb dX4_pointsReached_27 hl (k := 0) rfl (by decide) (by decide) rfl (fun ls hl => ?_)
                      refine lv_goto (tgt := 2) hx hb dX4_pointsReached_30 (by decide) ?_
                      refine lv_iload_n hx hb dX4_pointsReached_2 rfl (lv_at hl 0 rfl) ?_
                      refine lv_aload_n hx hb dX4_pointsReached_3 rfl (lv_at hl 1 rfl) ?_
                      refine va_get (D := (dC, dI)) (ci := 4) (v := .int sn) (C := RX4) (T := TX4) (N := 5) hx hb hts inW_X4 hown hK hP 0 rfl rfl 0 (by decide) (hts _ wd_1_148) (fun _ h9 => h9) rfl dX4_pointsReached_4 ?_
                      refine lv_icmp_ge (tgt := 33) hx hb dX4_pointsReached_7 (by decide) (fun h11 => ?_) (fun h11 => ?_)
                      · skip
                        have e22 : (f_X4_pointsReached_j1_1 sn gm mv) = (5 : Int32) := (if_neg h1).trans ((if_neg h2).trans ((if_neg h3).trans ((if_neg h4).trans ((if_neg h5).trans ((if_neg h6).trans ((if_neg h7).trans ((if_neg h8).trans ((if_neg h9).trans (if_neg h10)))))))))
                        exact J1 _ _ _ (hP) (hD) hS (by rw [show (f_X4_pointsReached_j1_1 sn gm mv) = (5 : Int32) from (if_neg h1).trans ((if_neg h2).trans ((if_neg h3).trans ((if_neg h4).trans ((if_neg h5).trans ((if_neg h6).trans ((if_neg h7).trans ((if_neg h8).trans ((if_neg h9).trans (if_neg h10)))))))))]; exact lv_sub hl [0, 1, 2] rfl)
                      · skip
                        refine lv_iload_n hx hb dX4_pointsReached_10 rfl (lv_at hl 0 rfl) ?_
                        refine lv_iconst (v := 5) hx hb dX4_pointsReached_11 (by decide) ?_
                        refine lv_icmp_ge (tgt := 33) hx hb dX4_pointsReached_12 (by decide) (fun _ => ?_) (fun h9 => absurd h9 (by decide))
                        have e23 : (f_X4_pointsReached_j1_1 sn gm mv) = (5 : Int32) := (if_neg h1).trans ((if_neg h2).trans ((if_neg h3).trans ((if_neg h4).trans ((if_neg h5).trans ((if_neg h6).trans ((if_neg h7).trans ((if_neg h8).trans ((if_neg h9).trans (if_neg h10)))))))))
                        exact J1 _ _ _ (hP) (hD) hS (by rw [show (f_X4_pointsReached_j1_1 sn gm mv) = (5 : Int32) from (if_neg h1).trans ((if_neg h2).trans ((if_neg h3).trans ((if_neg h4).trans ((if_neg h5).trans ((if_neg h6).trans ((if_neg h7).trans ((if_neg h8).trans ((if_neg h9).trans (if_neg h10)))))))))]; exact lv_sub hl [0, 1, 2] rfl)
def f_X4_gainAt_r (sn : Int32) (gm gg : Nat → Int32) (up : Int32) (mv : Int64) : Int32 := if (0 : Int32) < up then (if sn ≤ up then (gg (if (4 : Int32) < (up - (1 : Int32)) then (4 : Int32) else (up - (1 : Int32))).toNatClampNeg) else (if up < (5 : Int32) then (if (0 : Int64) < ((gm up.toNatClampNeg).toInt64 - (gm (up - (1 : Int32)).toNatClampNeg).toInt64) then ((gg (up - (1 : Int32)).toNatClampNeg) + (f_J9_floorDiv_f86c9_r (((gg up.toNatClampNeg).toInt64 - (gg (up - (1 : Int32)).toNatClampNeg).toInt64) * (mv - (gm (up - (1 : Int32)).toNatClampNeg).toInt64)) ((gm up.toNatClampNeg).toInt64 - (gm (up - (1 : Int32)).toNatClampNeg).toInt64)).toInt32) else (gg up.toNatClampNeg)) else (gg (if (4 : Int32) < (up - (1 : Int32)) then (4 : Int32) else (up - (1 : Int32))).toNatClampNeg))) else (gg (0 : Int32).toNatClampNeg)
set_option maxHeartbeats 4000000 in
set_option maxRecDepth 100000 in
theorem c_X4_gainAt (l : Launch) (dC : Nat → ClassId) (dI : Nat → Nat → Nat) (cI cJ cZ cO : ClassId) (ads : Nat) (sn : Int32) (adsm adsp adsi adsd : Nat) (gm : Nat → Int32) (adga : Nat) (gg : Nat → Int32) (up : Int32) (mv : Int64) (sz : Nat)  : Met l yX4_gainAt (Cond.code yX4_gainAt cX4_gainAt 10 (some .int) :: wAll) ({ frames := 1, cells := 0, slots := 0, locals := 25 }) (va_Pc [.ref ads, .ref adga, .int up, .long mv] (gP (dC, dI) [zX4 ads sn adsm adsp adsi adsd, zAI cI adsm 5 gm, zAI cI adga 5 gg] (tyG cI cJ cZ cO) sz gN)) (va_Qi (fun r (_ : Unit) => r = (f_X4_gainAt_r sn gm gg up mv)) (fun _ t => gB (dC, dI) (va_A [zX4 ads sn adsm adsp adsi adsd, zAI cI adsm 5 gm, zAI cI adga 5 gg] sz) [zX4 ads sn adsm adsp adsi adsd, zAI cI adsm 5 gm, zAI cI adga 5 gg] (tyG cI cJ cZ cO) t) (va_A [zX4 ads sn adsm adsp adsi adsd, zAI cI adsm 5 gm, zAI cI adga 5 gg] sz)) 0 0 (va_A [zX4 ads sn adsm adsp adsi adsd, zAI cI adsm 5 gm, zAI cI adga 5 gg] sz) := by
  refine Met.ofW (cc := cX4_gainAt) (maxL := 10) (ret := (some .int)) (by decide) rfl ?_
  intro p e s m args below meth c s₁ B hml hv
  obtain ⟨rfl, hsz, hP, hK, hD0, hG⟩ := hv
  have hx := B.exec
  have hb := B.bytes
  have hr := B.returns
  have hts := ht_of B.pre
  have hown : s.vm.findClass RX4 = some m.cls := findClass_of_methodNamed B.named
  have hlocks := B.notSynchronized
  subst hsz
  have hD := hD0.self (sz := s.heap.size)
  generalize hAe : va_A [zX4 ads sn adsm adsp adsi adsd, zAI cI adsm 5 gm, zAI cI adga 5 gg] s.heap.size = A at hD ⊢
  have hA : ∀ q : Nat, s.heap.size ≤ q → A q := fun q h => by rw [← hAe]; exact Or.inr h
  have hS : va_S A s.heap s.heap [] := va_S.rf
  have hP : va_P (dC, dI) vwCl [zX4 ads sn adsm adsp adsi adsd, zAI cI adsm 5 gm, zAI cI adga 5 gg] s.heap := hP
  have hl := lv_entry ([.ref ads, .ref adga, .int up, .long mv]) (n := 10) (Nat.le_of_ble_eq_true rfl)
  rw [lg_entry_eq]
  generalize (lg_sl ([.ref ads, .ref adga, .int up, .long mv]) ++ List.replicate (10 - (lg_sl ([.ref ads, .ref adga, .int up, .long mv])).length) Slot.unset).toArray = ls at hl ⊢
  have hl : lv_has ls 10 [(0, .ref ads), (1, .ref adga), (2, .int up), (3, .long mv)] := hl
  refine hh_name (fun Q hQ => ?_)
  refine lv_iload_n hx hb dX4_gainAt_0 rfl (lv_at hl 2 rfl) ?_
  refine lv_if_gt (tgt := 8) hx hb dX4_gainAt_1 (by decide) (fun h1 => ?_) (fun h1 => ?_)
  · skip
    refine lv_iload_n hx hb dX4_gainAt_8 rfl (lv_at hl 2 rfl) ?_
    refine lv_iconst (v := 1) hx hb dX4_gainAt_9 (by decide) ?_
    refine lv_isub hx hb dX4_gainAt_10 ?_
    refine lv_istore (lv' := [(5, .int (up - (1 : Int32))), (0, .ref ads), (1, .ref adga), (2, .int up), (3, .long mv)]) hx hb dX4_gainAt_11 hl (by decide) rfl (fun ls hl => ?_)
    refine lv_iload_n hx hb dX4_gainAt_13 rfl (lv_at hl 3 rfl) ?_
    refine lv_aload_n hx hb dX4_gainAt_14 rfl (lv_at hl 1 rfl) ?_
    refine va_get (D := (dC, dI)) (ci := 4) (v := .int sn) (C := RX4) (T := TX4) (N := 5) hx hb hts inW_X4 hown hK hP 0 rfl rfl 0 (by decide) (hts _ wd_1_148) (fun _ h9 => h9) rfl dX4_gainAt_15 ?_
    refine lv_icmp_ge (tgt := 26) hx hb dX4_gainAt_18 (by decide) (fun h2 => ?_) (fun h2 => ?_)
    · skip
      refine lv_aload_n hx hb dX4_gainAt_26 rfl (lv_at hl 2 rfl) ?_
      refine lv_iload hx hb dX4_gainAt_27 (lv_at hl 0 rfl) ?_
      refine lv_iconst (v := 4) hx hb dX4_gainAt_29 (by decide) ?_
      refine va_mmin hx hb (hml.trans hl.1.symm) hown (hts _ wd_3_138) (hts _ wd_3_139) (hts _ wd_1_13) (hts _ wd_3_140) (Nat.le_of_ble_eq_true rfl) (Nat.le_of_ble_eq_true rfl) (Nat.le_of_ble_eq_true rfl) (Nat.le_of_ble_eq_true rfl) dX4_gainAt_30 ?_
      refine va_iald hx hb hK hP 2 0 rfl rfl (i := (if (4 : Int32) < (up - (1 : Int32)) then (4 : Int32) else (up - (1 : Int32)))) (ix_min (by assumption)) dX4_gainAt_33 ?_
      exact hh_reti hQ (((if_pos h1).trans (if_pos h2)).symm) hx hb hr hlocks hP hK hD hS dX4_gainAt_34
    · skip
      refine lv_iload_n hx hb dX4_gainAt_21 rfl (lv_at hl 3 rfl) ?_
      refine lv_iconst (v := 5) hx hb dX4_gainAt_22 (by decide) ?_
      refine lv_icmp_lt (tgt := 35) hx hb dX4_gainAt_23 (by decide) (fun h3 => ?_) (fun h3 => ?_)
      · skip
        refine lv_aload_n hx hb dX4_gainAt_35 rfl (lv_at hl 1 rfl) ?_
        refine va_get (D := (dC, dI)) (ci := 4) (v := .ref adsm) (C := RX4) (T := TX4) (N := 5) hx hb hts inW_X4 hown hK hP 0 rfl rfl 1 (by decide) (hts _ wd_1_149) (fun _ h9 => h9) rfl dX4_gainAt_36 ?_
        refine lv_iload_n hx hb dX4_gainAt_39 rfl (lv_at hl 3 rfl) ?_
        refine va_iald hx hb hK hP 1 0 rfl rfl (i := up) (ix_p5 (by assumption) (by assumption)) dX4_gainAt_40 ?_
        refine lv_i2l hx hb dX4_gainAt_41 rfl ?_
        refine lv_aload_n hx hb dX4_gainAt_42 rfl (lv_at hl 1 rfl) ?_
        refine va_get (D := (dC, dI)) (ci := 4) (v := .ref adsm) (C := RX4) (T := TX4) (N := 5) hx hb hts inW_X4 hown hK hP 0 rfl rfl 1 (by decide) (hts _ wd_1_149) (fun _ h9 => h9) rfl dX4_gainAt_43 ?_
        refine lv_iload hx hb dX4_gainAt_46 (lv_at hl 0 rfl) ?_
        refine va_iald hx hb hK hP 1 0 rfl rfl (i := (up - (1 : Int32))) (ix_pm5 (by assumption) (by assumption)) dX4_gainAt_48 ?_
        refine lv_i2l hx hb dX4_gainAt_49 rfl ?_
        refine lv_lsub hx hb dX4_gainAt_50 ?_
        refine lv_lstore (lv' := [(6, .long ((gm up.toNatClampNeg).toInt64 - (gm (up - (1 : Int32)).toNatClampNeg).toInt64)), (5, .int (up - (1 : Int32))), (0, .ref ads), (1, .ref adga), (2, .int up), (3, .long mv)]) hx hb dX4_gainAt_51 hl (by decide) rfl (fun ls hl => ?_)
        refine lv_aload_n hx hb dX4_gainAt_53 rfl (lv_at hl 3 rfl) ?_
        refine lv_iload_n hx hb dX4_gainAt_54 rfl (lv_at hl 4 rfl) ?_
        refine va_iald hx hb hK hP 2 0 rfl rfl (i := up) (ix_p5 (by assumption) (by assumption)) dX4_gainAt_55 ?_
        refine lv_i2l hx hb dX4_gainAt_56 rfl ?_
        refine lv_aload_n hx hb dX4_gainAt_57 rfl (lv_at hl 3 rfl) ?_
        refine lv_iload hx hb dX4_gainAt_58 (lv_at hl 1 rfl) ?_
        refine va_iald hx hb hK hP 2 0 rfl rfl (i := (up - (1 : Int32))) (ix_pm5 (by assumption) (by assumption)) dX4_gainAt_60 ?_
        refine lv_i2l hx hb dX4_gainAt_61 rfl ?_
        refine lv_lsub hx hb dX4_gainAt_62 ?_
        refine lv_lstore (lv' := [(8, .long ((gg up.toNatClampNeg).toInt64 - (gg (up - (1 : Int32)).toNatClampNeg).toInt64)), (6, .long ((gm up.toNatClampNeg).toInt64 - (gm (up - (1 : Int32)).toNatClampNeg).toInt64)), (5, .int (up - (1 : Int32))), (0, .ref ads), (1, .ref adga), (2, .int up), (3, .long mv)]) hx hb dX4_gainAt_63 hl (by decide) rfl (fun ls hl => ?_)
        refine lv_lload hx hb dX4_gainAt_65 (lv_at hl 1 rfl) ?_
        refine lv_lconst (v := 0) hx hb dX4_gainAt_67 (by decide) ?_
        refine hh_cgt (tgt := 76) hx hb dX4_gainAt_68 dX4_gainAt_69 (by decide) (fun h4 => ?_) (fun h4 => ?_)
        · skip
          refine lv_aload_n hx hb dX4_gainAt_76 rfl (lv_at hl 4 rfl) ?_
          refine lv_iload hx hb dX4_gainAt_77 (lv_at hl 2 rfl) ?_
          refine va_iald hx hb hK hP 2 0 rfl rfl (i := (up - (1 : Int32))) (ix_pm5 (by assumption) (by assumption)) dX4_gainAt_79 ?_
          refine lv_lload hx hb dX4_gainAt_80 (lv_at hl 0 rfl) ?_
          refine lv_lload_n hx hb dX4_gainAt_82 rfl (lv_at hl 6 rfl) ?_
          refine lv_aload_n hx hb dX4_gainAt_83 rfl (lv_at hl 3 rfl) ?_
          refine va_get (D := (dC, dI)) (ci := 4) (v := .ref adsm) (C := RX4) (T := TX4) (N := 5) hx hb hts inW_X4 hown hK hP 0 rfl rfl 1 (by decide) (hts _ wd_1_149) (fun _ h9 => h9) rfl dX4_gainAt_84 ?_
          refine lv_iload hx hb dX4_gainAt_87 (lv_at hl 2 rfl) ?_
          refine va_iald hx hb hK hP 1 0 rfl rfl (i := (up - (1 : Int32))) (ix_pm5 (by assumption) (by assumption)) dX4_gainAt_89 ?_
          refine lv_i2l hx hb dX4_gainAt_90 rfl ?_
          refine lv_lsub hx hb dX4_gainAt_91 ?_
          refine lv_lmul hx hb dX4_gainAt_92 ?_
          refine lv_lload hx hb dX4_gainAt_93 (lv_at hl 1 rfl) ?_
          refine hh_calll (w2 := [zX4 ads sn adsm adsp adsi adsd, zAI cI adsm 5 gm, zAI cI adga 5 gg]) (va_runS (As := [.long (((gg up.toNatClampNeg).toInt64 - (gg (up - (1 : Int32)).toNatClampNeg).toInt64) * (mv - (gm (up - (1 : Int32)).toNatClampNeg).toInt64)), .long ((gm up.toNatClampNeg).toInt64 - (gm (up - (1 : Int32)).toNatClampNeg).toInt64)]) (rest := [.int (gg (up - (1 : Int32)).toNatClampNeg)]) ⟨hx, hb, hml, hown, hts⟩ (c_J9_floorDiv_f86c9 l dC dI cI cJ cZ cO (((gg up.toNatClampNeg).toInt64 - (gg (up - (1 : Int32)).toNatClampNeg).toInt64) * (mv - (gm (up - (1 : Int32)).toNatClampNeg).toInt64)) ((gm up.toNatClampNeg).toInt64 - (gm (up - (1 : Int32)).toNatClampNeg).toInt64) _ (nz_pos (by assumption))) (va_cwS 2 hts (gd_S wd_3_141 wd_3_142 wd_1_13 wd_3_143) rfl rfl rfl (by decide +kernel) ⟨Nat.le_of_ble_eq_true rfl, Nat.le_of_ble_eq_true rfl⟩) (hh_pS gU_c (fun _ _ _ => trivial) hK hP hD [] rfl rfl) rfl rfl hl.1 rfl (lv_room (Nat.le_of_ble_eq_true rfl)) dX4_gainAt_95 ⟨Nat.le_of_ble_eq_true rfl, Nat.le_of_ble_eq_true rfl⟩) hP hD hS hA [] [0, 1, 2] [0, 1, 2] rfl rfl rfl (by decide) rfl rfl (fun H locs hP hD hS => ?_)
          refine lv_l2i hx hb dX4_gainAt_98 rfl ?_
          refine lv_iadd hx hb dX4_gainAt_99 ?_
          exact hh_reti hQ (((if_pos h1).trans ((if_neg h2).trans ((if_pos h3).trans (if_pos h4)))).symm) hx hb hr hlocks hP hK hD hS dX4_gainAt_100
        · skip
          refine lv_aload_n hx hb dX4_gainAt_72 rfl (lv_at hl 4 rfl) ?_
          refine lv_iload_n hx hb dX4_gainAt_73 rfl (lv_at hl 5 rfl) ?_
          refine va_iald hx hb hK hP 2 0 rfl rfl (i := up) (ix_p5 (by assumption) (by assumption)) dX4_gainAt_74 ?_
          exact hh_reti hQ (((if_pos h1).trans ((if_neg h2).trans ((if_pos h3).trans (if_neg h4)))).symm) hx hb hr hlocks hP hK hD hS dX4_gainAt_75
      · skip
        refine lv_aload_n hx hb dX4_gainAt_26 rfl (lv_at hl 2 rfl) ?_
        refine lv_iload hx hb dX4_gainAt_27 (lv_at hl 0 rfl) ?_
        refine lv_iconst (v := 4) hx hb dX4_gainAt_29 (by decide) ?_
        refine va_mmin hx hb (hml.trans hl.1.symm) hown (hts _ wd_3_138) (hts _ wd_3_139) (hts _ wd_1_13) (hts _ wd_3_140) (Nat.le_of_ble_eq_true rfl) (Nat.le_of_ble_eq_true rfl) (Nat.le_of_ble_eq_true rfl) (Nat.le_of_ble_eq_true rfl) dX4_gainAt_30 ?_
        refine va_iald hx hb hK hP 2 0 rfl rfl (i := (if (4 : Int32) < (up - (1 : Int32)) then (4 : Int32) else (up - (1 : Int32)))) (ix_min (by assumption)) dX4_gainAt_33 ?_
        exact hh_reti hQ (((if_pos h1).trans ((if_neg h2).trans (if_neg h3))).symm) hx hb hr hlocks hP hK hD hS dX4_gainAt_34
  · skip
    refine lv_aload_n hx hb dX4_gainAt_4 rfl (lv_at hl 1 rfl) ?_
    refine lv_iconst (v := 0) hx hb dX4_gainAt_5 (by decide) ?_
    refine va_iald hx hb hK hP 2 0 rfl rfl (i := (0 : Int32)) (ix_d (by decide)) dX4_gainAt_6 ?_
    exact hh_reti hQ ((if_neg h1).symm) hx hb hr hlocks hP hK hD hS dX4_gainAt_7
set_option maxHeartbeats 4000000 in
set_option maxRecDepth 100000 in
theorem c_X4_pAt (l : Launch) (dC : Nat → ClassId) (dI : Nat → Nat → Nat) (cI cJ cZ cO : ClassId) (ads : Nat) (sn : Int32) (adsm adsp adsi adsd : Nat) (gm gp : Nat → Int32) (up : Int32) (mv : Int64) (sz : Nat)  : Met l yX4_pAt (Cond.code yX4_pAt cX4_pAt 4 (some .int) :: wAll) ({ frames := 2, cells := 0, slots := 0, locals := 54 }) (va_Pc [.ref ads, .int up, .long mv] (gP (dC, dI) [zX4 ads sn adsm adsp adsi adsd, zAI cI adsm 5 gm, zAI cI adsp 5 gp] (tyG cI cJ cZ cO) sz gN)) (va_Qi (fun r (_ : Unit) => r = (f_X4_gainAt_r sn gm gp up mv)) (fun _ t => gB (dC, dI) (va_A [zX4 ads sn adsm adsp adsi adsd, zAI cI adsm 5 gm, zAI cI adsp 5 gp] sz) [zX4 ads sn adsm adsp adsi adsd, zAI cI adsm 5 gm, zAI cI adsp 5 gp] (tyG cI cJ cZ cO) t) (va_A [zX4 ads sn adsm adsp adsi adsd, zAI cI adsm 5 gm, zAI cI adsp 5 gp] sz)) 0 0 (va_A [zX4 ads sn adsm adsp adsi adsd, zAI cI adsm 5 gm, zAI cI adsp 5 gp] sz) := by
  refine Met.ofW (cc := cX4_pAt) (maxL := 4) (ret := (some .int)) (by decide) rfl ?_
  intro p e s m args below meth c s₁ B hml hv
  obtain ⟨rfl, hsz, hP, hK, hD0, hG⟩ := hv
  have hx := B.exec
  have hb := B.bytes
  have hr := B.returns
  have hts := ht_of B.pre
  have hown : s.vm.findClass RX4 = some m.cls := findClass_of_methodNamed B.named
  have hlocks := B.notSynchronized
  subst hsz
  have hD := hD0.self (sz := s.heap.size)
  generalize hAe : va_A [zX4 ads sn adsm adsp adsi adsd, zAI cI adsm 5 gm, zAI cI adsp 5 gp] s.heap.size = A at hD ⊢
  have hA : ∀ q : Nat, s.heap.size ≤ q → A q := fun q h => by rw [← hAe]; exact Or.inr h
  have hS : va_S A s.heap s.heap [] := va_S.rf
  have hP : va_P (dC, dI) vwCl [zX4 ads sn adsm adsp adsi adsd, zAI cI adsm 5 gm, zAI cI adsp 5 gp] s.heap := hP
  have hl := lv_entry ([.ref ads, .int up, .long mv]) (n := 4) (Nat.le_of_ble_eq_true rfl)
  rw [lg_entry_eq]
  generalize (lg_sl ([.ref ads, .int up, .long mv]) ++ List.replicate (4 - (lg_sl ([.ref ads, .int up, .long mv])).length) Slot.unset).toArray = ls at hl ⊢
  have hl : lv_has ls 4 [(0, .ref ads), (1, .int up), (2, .long mv)] := hl
  refine hh_name (fun Q hQ => ?_)
  refine lv_aload_n hx hb dX4_pAt_0 rfl (lv_at hl 0 rfl) ?_
  refine lv_aload_n hx hb dX4_pAt_1 rfl (lv_at hl 0 rfl) ?_
  refine va_get (D := (dC, dI)) (ci := 4) (v := .ref adsp) (C := RX4) (T := TX4) (N := 5) hx hb hts inW_X4 hown hK hP 0 rfl rfl 2 (by decide) (hts _ wd_1_150) (fun _ h9 => h9) rfl dX4_pAt_2 ?_
  refine lv_iload_n hx hb dX4_pAt_5 rfl (lv_at hl 1 rfl) ?_
  refine lv_lload_n hx hb dX4_pAt_6 rfl (lv_at hl 2 rfl) ?_
  refine hh_calli (w2 := [zX4 ads sn adsm adsp adsi adsd, zAI cI adsm 5 gm, zAI cI adsp 5 gp]) (va_runV (As := [.ref adsp, .int up, .long mv]) (rest := []) ⟨hx, hb, hml, hown, hts⟩ (c_X4_gainAt l dC dI cI cJ cZ cO ads sn adsm adsp adsi adsd gm adsp gp up mv _) (cwV 3 hts (gd_V wd_3_134 wd_3_136 wd_p_7 wd_1_5 wd_3_137) rfl rfl rfl (by decide +kernel) ⟨Nat.le_of_ble_eq_true rfl, Nat.le_of_ble_eq_true rfl⟩) (hh_pV (ci := 4) (q := (RX4, TX4, 5)) (q0 := 0) rfl rfl gN_c (fun U _ hW => gN_w hW hG) hK hP hD [0, 1, 2] rfl rfl) rfl rfl hl.1 rfl (lv_room (Nat.le_of_ble_eq_true rfl)) dX4_pAt_7 ⟨Nat.le_of_ble_eq_true rfl, Nat.le_of_ble_eq_true rfl⟩) hP hD hS hA [0, 1, 2] [] [0, 1, 2] rfl rfl rfl (by decide) rfl rfl (fun H locs hP hD hS => ?_)
  exact hh_reti hQ (rfl) hx hb hr hlocks hP hK hD hS dX4_pAt_10
set_option maxHeartbeats 4000000 in
set_option maxRecDepth 100000 in
theorem c_X4_iAt (l : Launch) (dC : Nat → ClassId) (dI : Nat → Nat → Nat) (cI cJ cZ cO : ClassId) (ads : Nat) (sn : Int32) (adsm adsp adsi adsd : Nat) (gm gi : Nat → Int32) (up : Int32) (mv : Int64) (sz : Nat)  : Met l yX4_iAt (Cond.code yX4_iAt cX4_iAt 4 (some .int) :: wAll) ({ frames := 2, cells := 0, slots := 0, locals := 54 }) (va_Pc [.ref ads, .int up, .long mv] (gP (dC, dI) [zX4 ads sn adsm adsp adsi adsd, zAI cI adsm 5 gm, zAI cI adsi 5 gi] (tyG cI cJ cZ cO) sz gN)) (va_Qi (fun r (_ : Unit) => r = (f_X4_gainAt_r sn gm gi up mv)) (fun _ t => gB (dC, dI) (va_A [zX4 ads sn adsm adsp adsi adsd, zAI cI adsm 5 gm, zAI cI adsi 5 gi] sz) [zX4 ads sn adsm adsp adsi adsd, zAI cI adsm 5 gm, zAI cI adsi 5 gi] (tyG cI cJ cZ cO) t) (va_A [zX4 ads sn adsm adsp adsi adsd, zAI cI adsm 5 gm, zAI cI adsi 5 gi] sz)) 0 0 (va_A [zX4 ads sn adsm adsp adsi adsd, zAI cI adsm 5 gm, zAI cI adsi 5 gi] sz) := by
  refine Met.ofW (cc := cX4_iAt) (maxL := 4) (ret := (some .int)) (by decide) rfl ?_
  intro p e s m args below meth c s₁ B hml hv
  obtain ⟨rfl, hsz, hP, hK, hD0, hG⟩ := hv
  have hx := B.exec
  have hb := B.bytes
  have hr := B.returns
  have hts := ht_of B.pre
  have hown : s.vm.findClass RX4 = some m.cls := findClass_of_methodNamed B.named
  have hlocks := B.notSynchronized
  subst hsz
  have hD := hD0.self (sz := s.heap.size)
  generalize hAe : va_A [zX4 ads sn adsm adsp adsi adsd, zAI cI adsm 5 gm, zAI cI adsi 5 gi] s.heap.size = A at hD ⊢
  have hA : ∀ q : Nat, s.heap.size ≤ q → A q := fun q h => by rw [← hAe]; exact Or.inr h
  have hS : va_S A s.heap s.heap [] := va_S.rf
  have hP : va_P (dC, dI) vwCl [zX4 ads sn adsm adsp adsi adsd, zAI cI adsm 5 gm, zAI cI adsi 5 gi] s.heap := hP
  have hl := lv_entry ([.ref ads, .int up, .long mv]) (n := 4) (Nat.le_of_ble_eq_true rfl)
  rw [lg_entry_eq]
  generalize (lg_sl ([.ref ads, .int up, .long mv]) ++ List.replicate (4 - (lg_sl ([.ref ads, .int up, .long mv])).length) Slot.unset).toArray = ls at hl ⊢
  have hl : lv_has ls 4 [(0, .ref ads), (1, .int up), (2, .long mv)] := hl
  refine hh_name (fun Q hQ => ?_)
  refine lv_aload_n hx hb dX4_iAt_0 rfl (lv_at hl 0 rfl) ?_
  refine lv_aload_n hx hb dX4_iAt_1 rfl (lv_at hl 0 rfl) ?_
  refine va_get (D := (dC, dI)) (ci := 4) (v := .ref adsi) (C := RX4) (T := TX4) (N := 5) hx hb hts inW_X4 hown hK hP 0 rfl rfl 3 (by decide) (hts _ wd_1_151) (fun _ h9 => h9) rfl dX4_iAt_2 ?_
  refine lv_iload_n hx hb dX4_iAt_5 rfl (lv_at hl 1 rfl) ?_
  refine lv_lload_n hx hb dX4_iAt_6 rfl (lv_at hl 2 rfl) ?_
  refine hh_calli (w2 := [zX4 ads sn adsm adsp adsi adsd, zAI cI adsm 5 gm, zAI cI adsi 5 gi]) (va_runV (As := [.ref adsi, .int up, .long mv]) (rest := []) ⟨hx, hb, hml, hown, hts⟩ (c_X4_gainAt l dC dI cI cJ cZ cO ads sn adsm adsp adsi adsd gm adsi gi up mv _) (cwV 3 hts (gd_V wd_3_134 wd_3_136 wd_p_7 wd_1_5 wd_3_137) rfl rfl rfl (by decide +kernel) ⟨Nat.le_of_ble_eq_true rfl, Nat.le_of_ble_eq_true rfl⟩) (hh_pV (ci := 4) (q := (RX4, TX4, 5)) (q0 := 0) rfl rfl gN_c (fun U _ hW => gN_w hW hG) hK hP hD [0, 1, 2] rfl rfl) rfl rfl hl.1 rfl (lv_room (Nat.le_of_ble_eq_true rfl)) dX4_iAt_7 ⟨Nat.le_of_ble_eq_true rfl, Nat.le_of_ble_eq_true rfl⟩) hP hD hS hA [0, 1, 2] [] [0, 1, 2] rfl rfl rfl (by decide) rfl rfl (fun H locs hP hD hS => ?_)
  exact hh_reti hQ (rfl) hx hb hr hlocks hP hK hD hS dX4_iAt_10
set_option maxHeartbeats 4000000 in
set_option maxRecDepth 100000 in
theorem c_X4_dAt (l : Launch) (dC : Nat → ClassId) (dI : Nat → Nat → Nat) (cI cJ cZ cO : ClassId) (ads : Nat) (sn : Int32) (adsm adsp adsi adsd : Nat) (gm gd : Nat → Int32) (up : Int32) (mv : Int64) (sz : Nat)  : Met l yX4_dAt (Cond.code yX4_dAt cX4_dAt 4 (some .int) :: wAll) ({ frames := 2, cells := 0, slots := 0, locals := 54 }) (va_Pc [.ref ads, .int up, .long mv] (gP (dC, dI) [zX4 ads sn adsm adsp adsi adsd, zAI cI adsm 5 gm, zAI cI adsd 5 gd] (tyG cI cJ cZ cO) sz gN)) (va_Qi (fun r (_ : Unit) => r = (f_X4_gainAt_r sn gm gd up mv)) (fun _ t => gB (dC, dI) (va_A [zX4 ads sn adsm adsp adsi adsd, zAI cI adsm 5 gm, zAI cI adsd 5 gd] sz) [zX4 ads sn adsm adsp adsi adsd, zAI cI adsm 5 gm, zAI cI adsd 5 gd] (tyG cI cJ cZ cO) t) (va_A [zX4 ads sn adsm adsp adsi adsd, zAI cI adsm 5 gm, zAI cI adsd 5 gd] sz)) 0 0 (va_A [zX4 ads sn adsm adsp adsi adsd, zAI cI adsm 5 gm, zAI cI adsd 5 gd] sz) := by
  refine Met.ofW (cc := cX4_dAt) (maxL := 4) (ret := (some .int)) (by decide) rfl ?_
  intro p e s m args below meth c s₁ B hml hv
  obtain ⟨rfl, hsz, hP, hK, hD0, hG⟩ := hv
  have hx := B.exec
  have hb := B.bytes
  have hr := B.returns
  have hts := ht_of B.pre
  have hown : s.vm.findClass RX4 = some m.cls := findClass_of_methodNamed B.named
  have hlocks := B.notSynchronized
  subst hsz
  have hD := hD0.self (sz := s.heap.size)
  generalize hAe : va_A [zX4 ads sn adsm adsp adsi adsd, zAI cI adsm 5 gm, zAI cI adsd 5 gd] s.heap.size = A at hD ⊢
  have hA : ∀ q : Nat, s.heap.size ≤ q → A q := fun q h => by rw [← hAe]; exact Or.inr h
  have hS : va_S A s.heap s.heap [] := va_S.rf
  have hP : va_P (dC, dI) vwCl [zX4 ads sn adsm adsp adsi adsd, zAI cI adsm 5 gm, zAI cI adsd 5 gd] s.heap := hP
  have hl := lv_entry ([.ref ads, .int up, .long mv]) (n := 4) (Nat.le_of_ble_eq_true rfl)
  rw [lg_entry_eq]
  generalize (lg_sl ([.ref ads, .int up, .long mv]) ++ List.replicate (4 - (lg_sl ([.ref ads, .int up, .long mv])).length) Slot.unset).toArray = ls at hl ⊢
  have hl : lv_has ls 4 [(0, .ref ads), (1, .int up), (2, .long mv)] := hl
  refine hh_name (fun Q hQ => ?_)
  refine lv_aload_n hx hb dX4_dAt_0 rfl (lv_at hl 0 rfl) ?_
  refine lv_aload_n hx hb dX4_dAt_1 rfl (lv_at hl 0 rfl) ?_
  refine va_get (D := (dC, dI)) (ci := 4) (v := .ref adsd) (C := RX4) (T := TX4) (N := 5) hx hb hts inW_X4 hown hK hP 0 rfl rfl 4 (by decide) (hts _ wd_1_152) (fun _ h9 => h9) rfl dX4_dAt_2 ?_
  refine lv_iload_n hx hb dX4_dAt_5 rfl (lv_at hl 1 rfl) ?_
  refine lv_lload_n hx hb dX4_dAt_6 rfl (lv_at hl 2 rfl) ?_
  refine hh_calli (w2 := [zX4 ads sn adsm adsp adsi adsd, zAI cI adsm 5 gm, zAI cI adsd 5 gd]) (va_runV (As := [.ref adsd, .int up, .long mv]) (rest := []) ⟨hx, hb, hml, hown, hts⟩ (c_X4_gainAt l dC dI cI cJ cZ cO ads sn adsm adsp adsi adsd gm adsd gd up mv _) (cwV 3 hts (gd_V wd_3_134 wd_3_136 wd_p_7 wd_1_5 wd_3_137) rfl rfl rfl (by decide +kernel) ⟨Nat.le_of_ble_eq_true rfl, Nat.le_of_ble_eq_true rfl⟩) (hh_pV (ci := 4) (q := (RX4, TX4, 5)) (q0 := 0) rfl rfl gN_c (fun U _ hW => gN_w hW hG) hK hP hD [0, 1, 2] rfl rfl) rfl rfl hl.1 rfl (lv_room (Nat.le_of_ble_eq_true rfl)) dX4_dAt_7 ⟨Nat.le_of_ble_eq_true rfl, Nat.le_of_ble_eq_true rfl⟩) hP hD hS hA [0, 1, 2] [] [0, 1, 2] rfl rfl rfl (by decide) rfl rfl (fun H locs hP hD hS => ?_)
  exact hh_reti hQ (rfl) hx hb hr hlocks hP hK hD hS dX4_dAt_10
set_option maxHeartbeats 4000000 in
set_option maxRecDepth 100000 in
theorem c_X3_begin (l : Launch) (dC : Nat → ClassId) (dI : Nat → Nat → Nat) (cI cJ cZ cO : ClassId) (adr : Nat) (rpr rpe : Int32) (rsw rce : Int64) (rhe rba rup rsa rri rse : Int32) (rgr rle nc : Int64) (nh nb : Int32) (sz : Nat)  : Met l yX3_begin (Cond.code yX3_begin cX3_begin 5 none :: wAll) ({ frames := 0, cells := 0, slots := 0, locals := 0 }) (va_Pc [.ref adr, .long nc, .int nh, .int nb] (gP (dC, dI) [zX3 adr rpr rpe rsw rce rhe rba rup rsa rri rse rgr rle] (tyG cI cJ cZ cO) sz gN)) (va_Qv (fun (_ : Unit) => True) (fun _ t => gB (dC, dI) (va_A [zX3 adr rpr rpe rsw rce rhe rba rup rsa rri rse rgr rle] sz) [zX3 adr (1 : Int32) rpe rsw nc nh nb (1 : Int32) (0 : Int32) (0 : Int32) rse rgr rle] (tyG cI cJ cZ cO) t) (va_A [zX3 adr rpr rpe rsw rce rhe rba rup rsa rri rse rgr rle] sz)) 0 0 (va_A [zX3 adr rpr rpe rsw rce rhe rba rup rsa rri rse rgr rle] sz) := by
  refine Met.ofW (cc := cX3_begin) (maxL := 5) (ret := none) (by decide) rfl ?_
  intro p e s m args below meth c s₁ B hml hv
  obtain ⟨rfl, hsz, hP, hK, hD0, hG⟩ := hv
  have hx := B.exec
  have hb := B.bytes
  have hr := B.returns
  have hts := ht_of B.pre
  have hown : s.vm.findClass RX3 = some m.cls := findClass_of_methodNamed B.named
  have hlocks := B.notSynchronized
  subst hsz
  have hD := hD0.self (sz := s.heap.size)
  generalize hAe : va_A [zX3 adr rpr rpe rsw rce rhe rba rup rsa rri rse rgr rle] s.heap.size = A at hD ⊢
  have hA : ∀ q : Nat, s.heap.size ≤ q → A q := fun q h => by rw [← hAe]; exact Or.inr h
  have hS : va_S A s.heap s.heap [] := va_S.rf
  have hP : va_P (dC, dI) vwCl [zX3 adr rpr rpe rsw rce rhe rba rup rsa rri rse rgr rle] s.heap := hP
  have hl := lv_entry ([.ref adr, .long nc, .int nh, .int nb]) (n := 5) (Nat.le_of_ble_eq_true rfl)
  rw [lg_entry_eq]
  generalize (lg_sl ([.ref adr, .long nc, .int nh, .int nb]) ++ List.replicate (5 - (lg_sl ([.ref adr, .long nc, .int nh, .int nb])).length) Slot.unset).toArray = ls at hl ⊢
  have hl : lv_has ls 5 [(0, .ref adr), (1, .long nc), (3, .int nh), (4, .int nb)] := hl
  refine hh_name (fun Q hQ => ?_)
  refine lv_aload_n hx hb dX3_begin_0 rfl (lv_at hl 0 rfl) ?_
  refine lv_iconst (v := 1) hx hb dX3_begin_1 (by decide) ?_
  refine va_put (D := (dC, dI)) (ci := 3) (v := .int (1 : Int32)) (ty := .int) (C := RX3) (T := TX3) (N := 12) hx hb hts inW_X3 tyX3 tyX3_ok nmX3 hown hK hP hD hS 0 rfl rfl 0 (by decide) (hts _ wd_1_171) (fun _ h9 => h9) rfl (tyX3_ok 0 (by decide)) rfl rfl (Nat.le_of_ble_eq_true rfl) dX3_begin_2 (fun H locs hP hD hS => ?_)
  have hP : va_P (dC, dI) vwCl [zX3 adr (1 : Int32) rpe rsw rce rhe rba rup rsa rri rse rgr rle] H := hP
  have hD : va_D A [zX3 adr (1 : Int32) rpe rsw rce rhe rba rup rsa rri rse rgr rle] := hD
  refine lv_aload_n hx hb dX3_begin_5 rfl (lv_at hl 0 rfl) ?_
  refine lv_lload_n hx hb dX3_begin_6 rfl (lv_at hl 1 rfl) ?_
  refine va_put (D := (dC, dI)) (ci := 3) (v := .long nc) (ty := .long) (C := RX3) (T := TX3) (N := 12) hx hb hts inW_X3 tyX3 tyX3_ok nmX3 hown hK hP hD hS 0 rfl rfl 3 (by decide) (hts _ wd_1_178) (fun _ h9 => h9) rfl (tyX3_ok 3 (by decide)) rfl rfl (Nat.le_of_ble_eq_true rfl) dX3_begin_7 (fun H locs hP hD hS => ?_)
  have hP : va_P (dC, dI) vwCl [zX3 adr (1 : Int32) rpe rsw nc rhe rba rup rsa rri rse rgr rle] H := hP
  have hD : va_D A [zX3 adr (1 : Int32) rpe rsw nc rhe rba rup rsa rri rse rgr rle] := hD
  refine lv_aload_n hx hb dX3_begin_10 rfl (lv_at hl 0 rfl) ?_
  refine lv_iload_n hx hb dX3_begin_11 rfl (lv_at hl 2 rfl) ?_
  refine va_put (D := (dC, dI)) (ci := 3) (v := .int nh) (ty := .int) (C := RX3) (T := TX3) (N := 12) hx hb hts inW_X3 tyX3 tyX3_ok nmX3 hown hK hP hD hS 0 rfl rfl 4 (by decide) (hts _ wd_1_180) (fun _ h9 => h9) rfl (tyX3_ok 4 (by decide)) rfl rfl (Nat.le_of_ble_eq_true rfl) dX3_begin_12 (fun H locs hP hD hS => ?_)
  have hP : va_P (dC, dI) vwCl [zX3 adr (1 : Int32) rpe rsw nc nh rba rup rsa rri rse rgr rle] H := hP
  have hD : va_D A [zX3 adr (1 : Int32) rpe rsw nc nh rba rup rsa rri rse rgr rle] := hD
  refine lv_aload_n hx hb dX3_begin_15 rfl (lv_at hl 0 rfl) ?_
  refine lv_iload hx hb dX3_begin_16 (lv_at hl 3 rfl) ?_
  refine va_put (D := (dC, dI)) (ci := 3) (v := .int nb) (ty := .int) (C := RX3) (T := TX3) (N := 12) hx hb hts inW_X3 tyX3 tyX3_ok nmX3 hown hK hP hD hS 0 rfl rfl 5 (by decide) (hts _ wd_1_181) (fun _ h9 => h9) rfl (tyX3_ok 5 (by decide)) rfl rfl (Nat.le_of_ble_eq_true rfl) dX3_begin_18 (fun H locs hP hD hS => ?_)
  have hP : va_P (dC, dI) vwCl [zX3 adr (1 : Int32) rpe rsw nc nh nb rup rsa rri rse rgr rle] H := hP
  have hD : va_D A [zX3 adr (1 : Int32) rpe rsw nc nh nb rup rsa rri rse rgr rle] := hD
  refine lv_aload_n hx hb dX3_begin_21 rfl (lv_at hl 0 rfl) ?_
  refine lv_iconst (v := 1) hx hb dX3_begin_22 (by decide) ?_
  refine va_put (D := (dC, dI)) (ci := 3) (v := .int (1 : Int32)) (ty := .boolean) (C := RX3) (T := TX3) (N := 12) hx hb hts inW_X3 tyX3 tyX3_ok nmX3 hown hK hP hD hS 0 rfl rfl 6 (by decide) (hts _ wd_1_182) (fun _ h9 => h9) rfl (tyX3_ok 6 (by decide)) rfl rfl (Nat.le_of_ble_eq_true rfl) dX3_begin_23 (fun H locs hP hD hS => ?_)
  have hP : va_P (dC, dI) vwCl [zX3 adr (1 : Int32) rpe rsw nc nh nb (1 : Int32) rsa rri rse rgr rle] H := hP
  have hD : va_D A [zX3 adr (1 : Int32) rpe rsw nc nh nb (1 : Int32) rsa rri rse rgr rle] := hD
  refine lv_aload_n hx hb dX3_begin_26 rfl (lv_at hl 0 rfl) ?_
  refine lv_iconst (v := 0) hx hb dX3_begin_27 (by decide) ?_
  refine va_put (D := (dC, dI)) (ci := 3) (v := .int (0 : Int32)) (ty := .int) (C := RX3) (T := TX3) (N := 12) hx hb hts inW_X3 tyX3 tyX3_ok nmX3 hown hK hP hD hS 0 rfl rfl 7 (by decide) (hts _ wd_1_183) (fun _ h9 => h9) rfl (tyX3_ok 7 (by decide)) rfl rfl (Nat.le_of_ble_eq_true rfl) dX3_begin_28 (fun H locs hP hD hS => ?_)
  have hP : va_P (dC, dI) vwCl [zX3 adr (1 : Int32) rpe rsw nc nh nb (1 : Int32) (0 : Int32) rri rse rgr rle] H := hP
  have hD : va_D A [zX3 adr (1 : Int32) rpe rsw nc nh nb (1 : Int32) (0 : Int32) rri rse rgr rle] := hD
  refine lv_aload_n hx hb dX3_begin_31 rfl (lv_at hl 0 rfl) ?_
  refine lv_iconst (v := 0) hx hb dX3_begin_32 (by decide) ?_
  refine va_put (D := (dC, dI)) (ci := 3) (v := .int (0 : Int32)) (ty := .int) (C := RX3) (T := TX3) (N := 12) hx hb hts inW_X3 tyX3 tyX3_ok nmX3 hown hK hP hD hS 0 rfl rfl 8 (by decide) (hts _ wd_1_184) (fun _ h9 => h9) rfl (tyX3_ok 8 (by decide)) rfl rfl (Nat.le_of_ble_eq_true rfl) dX3_begin_33 (fun H locs hP hD hS => ?_)
  have hP : va_P (dC, dI) vwCl [zX3 adr (1 : Int32) rpe rsw nc nh nb (1 : Int32) (0 : Int32) (0 : Int32) rse rgr rle] H := hP
  have hD : va_D A [zX3 adr (1 : Int32) rpe rsw nc nh nb (1 : Int32) (0 : Int32) (0 : Int32) rse rgr rle] := hD
  exact hh_retv hQ hx hb hr hlocks hP hK hD hS dX3_begin_36
set_option maxHeartbeats 4000000 in
set_option maxRecDepth 100000 in
theorem c_X3_giveUp (l : Launch) (dC : Nat → ClassId) (dI : Nat → Nat → Nat) (cI cJ cZ cO : ClassId) (adr : Nat) (rpr rpe : Int32) (rsw rce : Int64) (rhe rba rup rsa rri rse : Int32) (rgr rle : Int64) (sz : Nat)  : Met l yX3_giveUp (Cond.code yX3_giveUp cX3_giveUp 1 none :: wAll) ({ frames := 0, cells := 0, slots := 0, locals := 0 }) (va_Pc [.ref adr] (gP (dC, dI) [zX3 adr rpr rpe rsw rce rhe rba rup rsa rri rse rgr rle] (tyG cI cJ cZ cO) sz gN)) (va_Qv (fun (_ : Unit) => True) (fun _ t => gB (dC, dI) (va_A [zX3 adr rpr rpe rsw rce rhe rba rup rsa rri rse rgr rle] sz) [zX3 adr (0 : Int32) rpe rsw rce rhe rba rup rsa rri rse rgr rle] (tyG cI cJ cZ cO) t) (va_A [zX3 adr rpr rpe rsw rce rhe rba rup rsa rri rse rgr rle] sz)) 0 0 (va_A [zX3 adr rpr rpe rsw rce rhe rba rup rsa rri rse rgr rle] sz) := by
  refine Met.ofW (cc := cX3_giveUp) (maxL := 1) (ret := none) (by decide) rfl ?_
  intro p e s m args below meth c s₁ B hml hv
  obtain ⟨rfl, hsz, hP, hK, hD0, hG⟩ := hv
  have hx := B.exec
  have hb := B.bytes
  have hr := B.returns
  have hts := ht_of B.pre
  have hown : s.vm.findClass RX3 = some m.cls := findClass_of_methodNamed B.named
  have hlocks := B.notSynchronized
  subst hsz
  have hD := hD0.self (sz := s.heap.size)
  generalize hAe : va_A [zX3 adr rpr rpe rsw rce rhe rba rup rsa rri rse rgr rle] s.heap.size = A at hD ⊢
  have hA : ∀ q : Nat, s.heap.size ≤ q → A q := fun q h => by rw [← hAe]; exact Or.inr h
  have hS : va_S A s.heap s.heap [] := va_S.rf
  have hP : va_P (dC, dI) vwCl [zX3 adr rpr rpe rsw rce rhe rba rup rsa rri rse rgr rle] s.heap := hP
  have hl := lv_entry ([.ref adr]) (n := 1) (Nat.le_of_ble_eq_true rfl)
  rw [lg_entry_eq]
  generalize (lg_sl ([.ref adr]) ++ List.replicate (1 - (lg_sl ([.ref adr])).length) Slot.unset).toArray = ls at hl ⊢
  have hl : lv_has ls 1 [(0, .ref adr)] := hl
  refine hh_name (fun Q hQ => ?_)
  refine lv_aload_n hx hb dX3_giveUp_0 rfl (lv_at hl 0 rfl) ?_
  refine lv_iconst (v := 0) hx hb dX3_giveUp_1 (by decide) ?_
  refine va_put (D := (dC, dI)) (ci := 3) (v := .int (0 : Int32)) (ty := .int) (C := RX3) (T := TX3) (N := 12) hx hb hts inW_X3 tyX3 tyX3_ok nmX3 hown hK hP hD hS 0 rfl rfl 0 (by decide) (hts _ wd_1_171) (fun _ h9 => h9) rfl (tyX3_ok 0 (by decide)) rfl rfl (Nat.le_of_ble_eq_true rfl) dX3_giveUp_2 (fun H locs hP hD hS => ?_)
  have hP : va_P (dC, dI) vwCl [zX3 adr (0 : Int32) rpe rsw rce rhe rba rup rsa rri rse rgr rle] H := hP
  have hD : va_D A [zX3 adr (0 : Int32) rpe rsw rce rhe rba rup rsa rri rse rgr rle] := hD
  exact hh_retv hQ hx hb hr hlocks hP hK hD hS dX3_giveUp_5
def f_X3_wanted_j1_1 (rce : Int64) (rhe rup : Int32) : Int64 := if rup = (0 : Int32) then (rce - rhe.toInt64) else (rce + rhe.toInt64)
set_option maxHeartbeats 4000000 in
set_option maxRecDepth 100000 in
theorem c_X3_wanted (l : Launch) (dC : Nat → ClassId) (dI : Nat → Nat → Nat) (cI cJ cZ cO : ClassId) (adr : Nat) (rpr rpe : Int32) (rsw rce : Int64) (rhe rba rup rsa rri rse : Int32) (rgr rle : Int64) (sz : Nat)  : Met l yX3_wanted (Cond.code yX3_wanted cX3_wanted 1 (some .long) :: wAll) ({ frames := 0, cells := 0, slots := 0, locals := 0 }) (va_Pc [.ref adr] (gP (dC, dI) [zX3 adr rpr rpe rsw rce rhe rba rup rsa rri rse rgr rle] (tyG cI cJ cZ cO) sz gN)) (va_Ql (fun r (_ : Unit) => r = (f_X3_wanted_j1_1 rce rhe rup)) (fun _ t => gB (dC, dI) (va_A [zX3 adr rpr rpe rsw rce rhe rba rup rsa rri rse rgr rle] sz) [zX3 adr rpr rpe rsw rce rhe rba rup rsa rri rse rgr rle] (tyG cI cJ cZ cO) t) (va_A [zX3 adr rpr rpe rsw rce rhe rba rup rsa rri rse rgr rle] sz)) 0 0 (va_A [zX3 adr rpr rpe rsw rce rhe rba rup rsa rri rse rgr rle] sz) := by
  refine Met.ofW (cc := cX3_wanted) (maxL := 1) (ret := (some .long)) (by decide) rfl ?_
  intro p e s m args below meth c s₁ B hml hv
  obtain ⟨rfl, hsz, hP, hK, hD0, hG⟩ := hv
  have hx := B.exec
  have hb := B.bytes
  have hr := B.returns
  have hts := ht_of B.pre
  have hown : s.vm.findClass RX3 = some m.cls := findClass_of_methodNamed B.named
  have hlocks := B.notSynchronized
  subst hsz
  have hD := hD0.self (sz := s.heap.size)
  generalize hAe : va_A [zX3 adr rpr rpe rsw rce rhe rba rup rsa rri rse rgr rle] s.heap.size = A at hD ⊢
  have hA : ∀ q : Nat, s.heap.size ≤ q → A q := fun q h => by rw [← hAe]; exact Or.inr h
  have hS : va_S A s.heap s.heap [] := va_S.rf
  have hP : va_P (dC, dI) vwCl [zX3 adr rpr rpe rsw rce rhe rba rup rsa rri rse rgr rle] s.heap := hP
  have hl := lv_entry ([.ref adr]) (n := 1) (Nat.le_of_ble_eq_true rfl)
  rw [lg_entry_eq]
  generalize (lg_sl ([.ref adr]) ++ List.replicate (1 - (lg_sl ([.ref adr])).length) Slot.unset).toArray = ls at hl ⊢
  have hl : lv_has ls 1 [(0, .ref adr)] := hl
  refine hh_name (fun Q hQ => ?_)
  refine lv_aload_n hx hb dX3_wanted_0 rfl (lv_at hl 0 rfl) ?_
  refine va_get (D := (dC, dI)) (ci := 3) (v := .int rup) (C := RX3) (T := TX3) (N := 12) hx hb hts inW_X3 hown hK hP 0 rfl rfl 6 (by decide) (hts _ wd_1_182) (fun _ h9 => h9) rfl dX3_wanted_1 ?_
  have J1 : ∀ (H : Heap) (locs : List Loc) (ls : Array Slot), va_P (dC, dI) vwCl [zX3 adr rpr rpe rsw rce rhe rba rup rsa rri rse rgr rle] H → va_D A [zX3 adr rpr rpe rsw rce rhe rba rup rsa rri rse rgr rle] → va_S A s.heap H locs → lv_has ls 1 [(0, .ref adr)] → W p l e (headSpec (Cond.code yX3_wanted cX3_wanted 1 (some .long) :: wAll) ({ frames := 0, cells := 0, slots := 0, locals := 0 })).room s m ([.ref adr] : List Value).toArray below meth c H locs 0 0 Q (F0 m 30 ls [.long (f_X3_wanted_j1_1 rce rhe rup)]) := by
    intro H locs ls hP hD hS hl
    exact hh_retl hQ (rfl) hx hb hr hlocks hP hK hD hS dX3_wanted_30
  refine lv_if_eq (tgt := 20) hx hb dX3_wanted_4 (by decide) (fun h1 => ?_) (fun h1 => ?_)
  · skip
    refine lv_aload_n hx hb dX3_wanted_20 rfl (lv_at hl 0 rfl) ?_
    refine va_get (D := (dC, dI)) (ci := 3) (v := .long rce) (C := RX3) (T := TX3) (N := 12) hx hb hts inW_X3 hown hK hP 0 rfl rfl 3 (by decide) (hts _ wd_1_178) (fun _ h9 => h9) rfl dX3_wanted_21 ?_
    refine lv_aload_n hx hb dX3_wanted_24 rfl (lv_at hl 0 rfl) ?_
    refine va_get (D := (dC, dI)) (ci := 3) (v := .int rhe) (C := RX3) (T := TX3) (N := 12) hx hb hts inW_X3 hown hK hP 0 rfl rfl 4 (by decide) (hts _ wd_1_180) (fun _ h9 => h9) rfl dX3_wanted_25 ?_
    refine lv_i2l hx hb dX3_wanted_28 rfl ?_
    refine lv_lsub hx hb dX3_wanted_29 ?_
    have e2 : (f_X3_wanted_j1_1 rce rhe rup) = (rce - rhe.toInt64) := if_pos h1
    refine hh_setl (y := (f_X3_wanted_j1_1 rce rhe rup)) (if_pos h1) ?_
    exact J1 _ _ _ (hP) (hD) hS (lv_sub hl [0] rfl)
  · skip
    refine lv_aload_n hx hb dX3_wanted_7 rfl (lv_at hl 0 rfl) ?_
    refine va_get (D := (dC, dI)) (ci := 3) (v := .long rce) (C := RX3) (T := TX3) (N := 12) hx hb hts inW_X3 hown hK hP 0 rfl rfl 3 (by decide) (hts _ wd_1_178) (fun _ h9 => h9) rfl dX3_wanted_8 ?_
    refine lv_aload_n hx hb dX3_wanted_11 rfl (lv_at hl 0 rfl) ?_
    refine va_get (D := (dC, dI)) (ci := 3) (v := .int rhe) (C := RX3) (T := TX3) (N := 12) hx hb hts inW_X3 hown hK hP 0 rfl rfl 4 (by decide) (hts _ wd_1_180) (fun _ h9 => h9) rfl dX3_wanted_12 ?_
    refine lv_i2l hx hb dX3_wanted_15 rfl ?_
    refine lv_ladd hx hb dX3_wanted_16 ?_
    refine lv_goto (tgt := 30) hx hb dX3_wanted_17 (by decide) ?_
    have e3 : (f_X3_wanted_j1_1 rce rhe rup) = (rce + rhe.toInt64) := if_neg h1
    refine hh_setl (y := (f_X3_wanted_j1_1 rce rhe rup)) (if_neg h1) ?_
    exact J1 _ _ _ (hP) (hD) hS (lv_sub hl [0] rfl)
def f_X3_noteRise_j1_1 (rsa rri rse : Int32) : Int32 := if (rri + (1 : Int32)) = (2 : Int32) then rsa else rse
def f_X3_noteRise_j2_1 (rpr rri : Int32) : Int32 := if (rri + (1 : Int32)) < (4 : Int32) then rpr else (2 : Int32)
def f_X3_noteRise_j2_2 (rpe rsa rri rse : Int32) : Int32 := if (rri + (1 : Int32)) < (4 : Int32) then rpe else ((rsa - (f_X3_noteRise_j1_1 rsa rri rse)) / (2 : Int32))
def f_X3_noteRise_j2_3 (rsw : Int64) (rri : Int32) (rgr rle : Int64) : Int64 := if (rri + (1 : Int32)) < (4 : Int32) then rsw else (rgr - rle)
def f_X3_noteRise_rri (rri : Int32) : Int32 := (rri + (1 : Int32))
set_option maxHeartbeats 4000000 in
set_option maxRecDepth 100000 in
theorem c_X3_noteRise (l : Launch) (dC : Nat → ClassId) (dI : Nat → Nat → Nat) (cI cJ cZ cO : ClassId) (adr : Nat) (rpr rpe : Int32) (rsw rce : Int64) (rhe rba rup rsa rri rse : Int32) (rgr rle mv : Int64) (sz : Nat)  : Met l yX3_noteRise (Cond.code yX3_noteRise cX3_noteRise 3 none :: wAll) ({ frames := 0, cells := 0, slots := 0, locals := 0 }) (va_Pc [.ref adr, .long mv] (gP (dC, dI) [zX3 adr rpr rpe rsw rce rhe rba rup rsa rri rse rgr rle] (tyG cI cJ cZ cO) sz gN)) (va_Qv (fun (_ : Unit) => True) (fun _ t => gB (dC, dI) (va_A [zX3 adr rpr rpe rsw rce rhe rba rup rsa rri rse rgr rle] sz) [zX3 adr (f_X3_noteRise_j2_1 rpr rri) (f_X3_noteRise_j2_2 rpe rsa rri rse) (f_X3_noteRise_j2_3 rsw rri rgr rle) rce rhe rba rup rsa (f_X3_noteRise_rri rri) (f_X3_noteRise_j1_1 rsa rri rse) mv mv] (tyG cI cJ cZ cO) t) (va_A [zX3 adr rpr rpe rsw rce rhe rba rup rsa rri rse rgr rle] sz)) 0 0 (va_A [zX3 adr rpr rpe rsw rce rhe rba rup rsa rri rse rgr rle] sz) := by
  refine Met.ofW (cc := cX3_noteRise) (maxL := 3) (ret := none) (by decide) rfl ?_
  intro p e s m args below meth c s₁ B hml hv
  obtain ⟨rfl, hsz, hP, hK, hD0, hG⟩ := hv
  have hx := B.exec
  have hb := B.bytes
  have hr := B.returns
  have hts := ht_of B.pre
  have hown : s.vm.findClass RX3 = some m.cls := findClass_of_methodNamed B.named
  have hlocks := B.notSynchronized
  subst hsz
  have hD := hD0.self (sz := s.heap.size)
  generalize hAe : va_A [zX3 adr rpr rpe rsw rce rhe rba rup rsa rri rse rgr rle] s.heap.size = A at hD ⊢
  have hA : ∀ q : Nat, s.heap.size ≤ q → A q := fun q h => by rw [← hAe]; exact Or.inr h
  have hS : va_S A s.heap s.heap [] := va_S.rf
  have hP : va_P (dC, dI) vwCl [zX3 adr rpr rpe rsw rce rhe rba rup rsa rri rse rgr rle] s.heap := hP
  have hl := lv_entry ([.ref adr, .long mv]) (n := 3) (Nat.le_of_ble_eq_true rfl)
  rw [lg_entry_eq]
  generalize (lg_sl ([.ref adr, .long mv]) ++ List.replicate (3 - (lg_sl ([.ref adr, .long mv])).length) Slot.unset).toArray = ls at hl ⊢
  have hl : lv_has ls 3 [(0, .ref adr), (1, .long mv)] := hl
  refine hh_name (fun Q hQ => ?_)
  refine lv_aload_n hx hb dX3_noteRise_0 rfl (lv_at hl 0 rfl) ?_
  refine lv_dup hx hb dX3_noteRise_1 rfl ?_
  refine va_get (D := (dC, dI)) (ci := 3) (v := .int rri) (C := RX3) (T := TX3) (N := 12) hx hb hts inW_X3 hown hK hP 0 rfl rfl 8 (by decide) (hts _ wd_1_184) (fun _ h9 => h9) rfl dX3_noteRise_2 ?_
  refine lv_iconst (v := 1) hx hb dX3_noteRise_5 (by decide) ?_
  refine lv_iadd hx hb dX3_noteRise_6 ?_
  refine va_put (D := (dC, dI)) (ci := 3) (v := .int (rri + (1 : Int32))) (ty := .int) (C := RX3) (T := TX3) (N := 12) hx hb hts inW_X3 tyX3 tyX3_ok nmX3 hown hK hP hD hS 0 rfl rfl 8 (by decide) (hts _ wd_1_184) (fun _ h9 => h9) rfl (tyX3_ok 8 (by decide)) rfl rfl (Nat.le_of_ble_eq_true rfl) dX3_noteRise_7 (fun H locs hP hD hS => ?_)
  have hP : va_P (dC, dI) vwCl [zX3 adr rpr rpe rsw rce rhe rba rup rsa (rri + (1 : Int32)) rse rgr rle] H := hP
  have hD : va_D A [zX3 adr rpr rpe rsw rce rhe rba rup rsa (rri + (1 : Int32)) rse rgr rle] := hD
  refine lv_aload_n hx hb dX3_noteRise_10 rfl (lv_at hl 0 rfl) ?_
  refine va_get (D := (dC, dI)) (ci := 3) (v := .int (rri + (1 : Int32))) (C := RX3) (T := TX3) (N := 12) hx hb hts inW_X3 hown hK hP 0 rfl rfl 8 (by decide) (hts _ wd_1_184) (fun _ h9 => h9) rfl dX3_noteRise_11 ?_
  refine lv_iconst (v := 2) hx hb dX3_noteRise_14 (by decide) ?_
  have J1 : ∀ (H : Heap) (locs : List Loc) (ls : Array Slot), va_P (dC, dI) vwCl [zX3 adr rpr rpe rsw rce rhe rba rup rsa (rri + (1 : Int32)) (f_X3_noteRise_j1_1 rsa rri rse) rgr rle] H → va_D A [zX3 adr rpr rpe rsw rce rhe rba rup rsa (rri + (1 : Int32)) (f_X3_noteRise_j1_1 rsa rri rse) rgr rle] → va_S A s.heap H locs → lv_has ls 3 [(0, .ref adr), (1, .long mv)] → W p l e (headSpec (Cond.code yX3_noteRise cX3_noteRise 3 none :: wAll) ({ frames := 0, cells := 0, slots := 0, locals := 0 })).room s m ([.ref adr, .long mv] : List Value).toArray below meth c H locs 0 0 Q (F0 m 26 ls []) := by
    intro H locs ls hP hD hS hl
    refine lv_aload_n hx hb dX3_noteRise_26 rfl (lv_at hl 0 rfl) ?_
    refine va_get (D := (dC, dI)) (ci := 3) (v := .int (rri + (1 : Int32))) (C := RX3) (T := TX3) (N := 12) hx hb hts inW_X3 hown hK hP 0 rfl rfl 8 (by decide) (hts _ wd_1_184) (fun _ h9 => h9) rfl dX3_noteRise_27 ?_
    refine lv_iconst (v := 4) hx hb dX3_noteRise_30 (by decide) ?_
    have J2 : ∀ (H : Heap) (locs : List Loc) (ls : Array Slot), va_P (dC, dI) vwCl [zX3 adr (f_X3_noteRise_j2_1 rpr rri) (f_X3_noteRise_j2_2 rpe rsa rri rse) (f_X3_noteRise_j2_3 rsw rri rgr rle) rce rhe rba rup rsa (rri + (1 : Int32)) (f_X3_noteRise_j1_1 rsa rri rse) rgr rle] H → va_D A [zX3 adr (f_X3_noteRise_j2_1 rpr rri) (f_X3_noteRise_j2_2 rpe rsa rri rse) (f_X3_noteRise_j2_3 rsw rri rgr rle) rce rhe rba rup rsa (rri + (1 : Int32)) (f_X3_noteRise_j1_1 rsa rri rse) rgr rle] → va_S A s.heap H locs → lv_has ls 3 [(0, .ref adr), (1, .long mv)] → W p l e (headSpec (Cond.code yX3_noteRise cX3_noteRise 3 none :: wAll) ({ frames := 0, cells := 0, slots := 0, locals := 0 })).room s m ([.ref adr, .long mv] : List Value).toArray below meth c H locs 0 0 Q (F0 m 67 ls []) := by
      intro H locs ls hP hD hS hl
      refine lv_aload_n hx hb dX3_noteRise_67 rfl (lv_at hl 0 rfl) ?_
      refine lv_lload_n hx hb dX3_noteRise_68 rfl (lv_at hl 1 rfl) ?_
      refine va_put (D := (dC, dI)) (ci := 3) (v := .long mv) (ty := .long) (C := RX3) (T := TX3) (N := 12) hx hb hts inW_X3 tyX3 tyX3_ok nmX3 hown hK hP hD hS 0 rfl rfl 10 (by decide) (hts _ wd_1_186) (fun _ h9 => h9) rfl (tyX3_ok 10 (by decide)) rfl rfl (Nat.le_of_ble_eq_true rfl) dX3_noteRise_69 (fun H locs hP hD hS => ?_)
      have hP : va_P (dC, dI) vwCl [zX3 adr (f_X3_noteRise_j2_1 rpr rri) (f_X3_noteRise_j2_2 rpe rsa rri rse) (f_X3_noteRise_j2_3 rsw rri rgr rle) rce rhe rba rup rsa (rri + (1 : Int32)) (f_X3_noteRise_j1_1 rsa rri rse) mv rle] H := hP
      have hD : va_D A [zX3 adr (f_X3_noteRise_j2_1 rpr rri) (f_X3_noteRise_j2_2 rpe rsa rri rse) (f_X3_noteRise_j2_3 rsw rri rgr rle) rce rhe rba rup rsa (rri + (1 : Int32)) (f_X3_noteRise_j1_1 rsa rri rse) mv rle] := hD
      refine lv_aload_n hx hb dX3_noteRise_72 rfl (lv_at hl 0 rfl) ?_
      refine lv_lload_n hx hb dX3_noteRise_73 rfl (lv_at hl 1 rfl) ?_
      refine va_put (D := (dC, dI)) (ci := 3) (v := .long mv) (ty := .long) (C := RX3) (T := TX3) (N := 12) hx hb hts inW_X3 tyX3 tyX3_ok nmX3 hown hK hP hD hS 0 rfl rfl 11 (by decide) (hts _ wd_1_187) (fun _ h9 => h9) rfl (tyX3_ok 11 (by decide)) rfl rfl (Nat.le_of_ble_eq_true rfl) dX3_noteRise_74 (fun H locs hP hD hS => ?_)
      have hP : va_P (dC, dI) vwCl [zX3 adr (f_X3_noteRise_j2_1 rpr rri) (f_X3_noteRise_j2_2 rpe rsa rri rse) (f_X3_noteRise_j2_3 rsw rri rgr rle) rce rhe rba rup rsa (rri + (1 : Int32)) (f_X3_noteRise_j1_1 rsa rri rse) mv mv] H := hP
      have hD : va_D A [zX3 adr (f_X3_noteRise_j2_1 rpr rri) (f_X3_noteRise_j2_2 rpe rsa rri rse) (f_X3_noteRise_j2_3 rsw rri rgr rle) rce rhe rba rup rsa (rri + (1 : Int32)) (f_X3_noteRise_j1_1 rsa rri rse) mv mv] := hD
      exact hh_retv hQ hx hb hr hlocks hP hK hD hS dX3_noteRise_77
    refine lv_icmp_lt (tgt := 67) hx hb dX3_noteRise_31 (by decide) (fun h2 => ?_) (fun h2 => ?_)
    · skip
      have e3 : (f_X3_noteRise_j2_1 rpr rri) = rpr := if_pos h2
      have e4 : (f_X3_noteRise_j2_2 rpe rsa rri rse) = rpe := if_pos h2
      have e5 : (f_X3_noteRise_j2_3 rsw rri rgr rle) = rsw := if_pos h2
      exact J2 _ _ _ (by rw [show (f_X3_noteRise_j2_1 rpr rri) = rpr from if_pos h2, show (f_X3_noteRise_j2_2 rpe rsa rri rse) = rpe from if_pos h2, show (f_X3_noteRise_j2_3 rsw rri rgr rle) = rsw from if_pos h2]; exact hP) (by rw [show (f_X3_noteRise_j2_1 rpr rri) = rpr from if_pos h2, show (f_X3_noteRise_j2_2 rpe rsa rri rse) = rpe from if_pos h2, show (f_X3_noteRise_j2_3 rsw rri rgr rle) = rsw from if_pos h2]; exact hD) hS (lv_sub hl [0, 1] rfl)
    · skip
      refine lv_aload_n hx hb dX3_noteRise_34 rfl (lv_at hl 0 rfl) ?_
      refine lv_aload_n hx hb dX3_noteRise_35 rfl (lv_at hl 0 rfl) ?_
      refine va_get (D := (dC, dI)) (ci := 3) (v := .int rsa) (C := RX3) (T := TX3) (N := 12) hx hb hts inW_X3 hown hK hP 0 rfl rfl 7 (by decide) (hts _ wd_1_183) (fun _ h9 => h9) rfl dX3_noteRise_36 ?_
      refine lv_aload_n hx hb dX3_noteRise_39 rfl (lv_at hl 0 rfl) ?_
      refine va_get (D := (dC, dI)) (ci := 3) (v := .int (f_X3_noteRise_j1_1 rsa rri rse)) (C := RX3) (T := TX3) (N := 12) hx hb hts inW_X3 hown hK hP 0 rfl rfl 9 (by decide) (hts _ wd_1_185) (fun _ h9 => h9) rfl dX3_noteRise_40 ?_
      refine lv_isub hx hb dX3_noteRise_43 ?_
      refine lv_iconst (v := 2) hx hb dX3_noteRise_44 (by decide) ?_
      refine lv_idiv hx hb dX3_noteRise_45 (by decide) ?_
      refine va_put (D := (dC, dI)) (ci := 3) (v := .int ((rsa - (f_X3_noteRise_j1_1 rsa rri rse)) / (2 : Int32))) (ty := .int) (C := RX3) (T := TX3) (N := 12) hx hb hts inW_X3 tyX3 tyX3_ok nmX3 hown hK hP hD hS 0 rfl rfl 1 (by decide) (hts _ wd_1_174) (fun _ h9 => h9) rfl (tyX3_ok 1 (by decide)) rfl rfl (Nat.le_of_ble_eq_true rfl) dX3_noteRise_46 (fun H locs hP hD hS => ?_)
      have hP : va_P (dC, dI) vwCl [zX3 adr rpr ((rsa - (f_X3_noteRise_j1_1 rsa rri rse)) / (2 : Int32)) rsw rce rhe rba rup rsa (rri + (1 : Int32)) (f_X3_noteRise_j1_1 rsa rri rse) rgr rle] H := hP
      have hD : va_D A [zX3 adr rpr ((rsa - (f_X3_noteRise_j1_1 rsa rri rse)) / (2 : Int32)) rsw rce rhe rba rup rsa (rri + (1 : Int32)) (f_X3_noteRise_j1_1 rsa rri rse) rgr rle] := hD
      refine lv_aload_n hx hb dX3_noteRise_49 rfl (lv_at hl 0 rfl) ?_
      refine lv_aload_n hx hb dX3_noteRise_50 rfl (lv_at hl 0 rfl) ?_
      refine va_get (D := (dC, dI)) (ci := 3) (v := .long rgr) (C := RX3) (T := TX3) (N := 12) hx hb hts inW_X3 hown hK hP 0 rfl rfl 10 (by decide) (hts _ wd_1_186) (fun _ h9 => h9) rfl dX3_noteRise_51 ?_
      refine lv_aload_n hx hb dX3_noteRise_54 rfl (lv_at hl 0 rfl) ?_
      refine va_get (D := (dC, dI)) (ci := 3) (v := .long rle) (C := RX3) (T := TX3) (N := 12) hx hb hts inW_X3 hown hK hP 0 rfl rfl 11 (by decide) (hts _ wd_1_187) (fun _ h9 => h9) rfl dX3_noteRise_55 ?_
      refine lv_lsub hx hb dX3_noteRise_58 ?_
      refine va_put (D := (dC, dI)) (ci := 3) (v := .long (rgr - rle)) (ty := .long) (C := RX3) (T := TX3) (N := 12) hx hb hts inW_X3 tyX3 tyX3_ok nmX3 hown hK hP hD hS 0 rfl rfl 2 (by decide) (hts _ wd_1_176) (fun _ h9 => h9) rfl (tyX3_ok 2 (by decide)) rfl rfl (Nat.le_of_ble_eq_true rfl) dX3_noteRise_59 (fun H locs hP hD hS => ?_)
      have hP : va_P (dC, dI) vwCl [zX3 adr rpr ((rsa - (f_X3_noteRise_j1_1 rsa rri rse)) / (2 : Int32)) (rgr - rle) rce rhe rba rup rsa (rri + (1 : Int32)) (f_X3_noteRise_j1_1 rsa rri rse) rgr rle] H := hP
      have hD : va_D A [zX3 adr rpr ((rsa - (f_X3_noteRise_j1_1 rsa rri rse)) / (2 : Int32)) (rgr - rle) rce rhe rba rup rsa (rri + (1 : Int32)) (f_X3_noteRise_j1_1 rsa rri rse) rgr rle] := hD
      refine lv_aload_n hx hb dX3_noteRise_62 rfl (lv_at hl 0 rfl) ?_
      refine lv_iconst (v := 2) hx hb dX3_noteRise_63 (by decide) ?_
      refine va_put (D := (dC, dI)) (ci := 3) (v := .int (2 : Int32)) (ty := .int) (C := RX3) (T := TX3) (N := 12) hx hb hts inW_X3 tyX3 tyX3_ok nmX3 hown hK hP hD hS 0 rfl rfl 0 (by decide) (hts _ wd_1_171) (fun _ h9 => h9) rfl (tyX3_ok 0 (by decide)) rfl rfl (Nat.le_of_ble_eq_true rfl) dX3_noteRise_64 (fun H locs hP hD hS => ?_)
      have hP : va_P (dC, dI) vwCl [zX3 adr (2 : Int32) ((rsa - (f_X3_noteRise_j1_1 rsa rri rse)) / (2 : Int32)) (rgr - rle) rce rhe rba rup rsa (rri + (1 : Int32)) (f_X3_noteRise_j1_1 rsa rri rse) rgr rle] H := hP
      have hD : va_D A [zX3 adr (2 : Int32) ((rsa - (f_X3_noteRise_j1_1 rsa rri rse)) / (2 : Int32)) (rgr - rle) rce rhe rba rup rsa (rri + (1 : Int32)) (f_X3_noteRise_j1_1 rsa rri rse) rgr rle] := hD
      have e6 : (f_X3_noteRise_j2_1 rpr rri) = (2 : Int32) := if_neg h2
      have e7 : (f_X3_noteRise_j2_2 rpe rsa rri rse) = ((rsa - (f_X3_noteRise_j1_1 rsa rri rse)) / (2 : Int32)) := if_neg h2
      have e8 : (f_X3_noteRise_j2_3 rsw rri rgr rle) = (rgr - rle) := if_neg h2
      exact J2 _ _ _ (by rw [show (f_X3_noteRise_j2_1 rpr rri) = (2 : Int32) from if_neg h2, show (f_X3_noteRise_j2_2 rpe rsa rri rse) = ((rsa - (f_X3_noteRise_j1_1 rsa rri rse)) / (2 : Int32)) from if_neg h2, show (f_X3_noteRise_j2_3 rsw rri rgr rle) = (rgr - rle) from if_neg h2]; exact hP) (by rw [show (f_X3_noteRise_j2_1 rpr rri) = (2 : Int32) from if_neg h2, show (f_X3_noteRise_j2_2 rpe rsa rri rse) = ((rsa - (f_X3_noteRise_j1_1 rsa rri rse)) / (2 : Int32)) from if_neg h2, show (f_X3_noteRise_j2_3 rsw rri rgr rle) = (rgr - rle) from if_neg h2]; exact hD) hS (lv_sub hl [0, 1] rfl)
  refine lv_icmp_ne (tgt := 26) hx hb dX3_noteRise_15 (by decide) (fun h1 => ?_) (fun h1 => ?_)
  · skip
    have e9 : (f_X3_noteRise_j1_1 rsa rri rse) = rse := if_neg h1
    exact J1 _ _ _ (by rw [show (f_X3_noteRise_j1_1 rsa rri rse) = rse from if_neg h1]; exact hP) (by rw [show (f_X3_noteRise_j1_1 rsa rri rse) = rse from if_neg h1]; exact hD) hS (lv_sub hl [0, 1] rfl)
  · skip
    refine lv_aload_n hx hb dX3_noteRise_18 rfl (lv_at hl 0 rfl) ?_
    refine lv_aload_n hx hb dX3_noteRise_19 rfl (lv_at hl 0 rfl) ?_
    refine va_get (D := (dC, dI)) (ci := 3) (v := .int rsa) (C := RX3) (T := TX3) (N := 12) hx hb hts inW_X3 hown hK hP 0 rfl rfl 7 (by decide) (hts _ wd_1_183) (fun _ h9 => h9) rfl dX3_noteRise_20 ?_
    refine va_put (D := (dC, dI)) (ci := 3) (v := .int rsa) (ty := .int) (C := RX3) (T := TX3) (N := 12) hx hb hts inW_X3 tyX3 tyX3_ok nmX3 hown hK hP hD hS 0 rfl rfl 9 (by decide) (hts _ wd_1_185) (fun _ h9 => h9) rfl (tyX3_ok 9 (by decide)) rfl rfl (Nat.le_of_ble_eq_true rfl) dX3_noteRise_23 (fun H locs hP hD hS => ?_)
    have hP : va_P (dC, dI) vwCl [zX3 adr rpr rpe rsw rce rhe rba rup rsa (rri + (1 : Int32)) rsa rgr rle] H := hP
    have hD : va_D A [zX3 adr rpr rpe rsw rce rhe rba rup rsa (rri + (1 : Int32)) rsa rgr rle] := hD
    have e10 : (f_X3_noteRise_j1_1 rsa rri rse) = rsa := if_pos h1
    exact J1 _ _ _ (by rw [show (f_X3_noteRise_j1_1 rsa rri rse) = rsa from if_pos h1]; exact hP) (by rw [show (f_X3_noteRise_j1_1 rsa rri rse) = rsa from if_pos h1]; exact hD) hS (lv_sub hl [0, 1] rfl)
def f_X3_sample_j1_1 (rba rup : Int32) (e1 : Int64) : Int32 := if e1 ≤ rba.toInt64 then (if (-rba).toInt64 ≤ e1 then rup else (0 : Int32)) else (1 : Int32)
def f_X3_sample_j2_1 (rpr rba rup rri : Int32) (e1 : Int64) : Int32 := if (f_X3_sample_j1_1 rba rup e1) = (0 : Int32) then rpr else (if rup = (0 : Int32) then (f_X3_noteRise_j2_1 rpr rri) else rpr)
def f_X3_sample_j2_2 (rpe rba rup rsa rri rse : Int32) (e1 : Int64) : Int32 := if (f_X3_sample_j1_1 rba rup e1) = (0 : Int32) then rpe else (if rup = (0 : Int32) then (f_X3_noteRise_j2_2 rpe (rsa + (1 : Int32)) rri rse) else rpe)
def f_X3_sample_j2_3 (rsw : Int64) (rba rup rri : Int32) (rgr rle e1 : Int64) : Int64 := if (f_X3_sample_j1_1 rba rup e1) = (0 : Int32) then rsw else (if rup = (0 : Int32) then (f_X3_noteRise_j2_3 rsw rri rgr rle) else rsw)
def f_X3_sample_j2_4 (rba rup rri : Int32) (e1 : Int64) : Int32 := if (f_X3_sample_j1_1 rba rup e1) = (0 : Int32) then rri else (if rup = (0 : Int32) then (f_X3_noteRise_rri rri) else rri)
def f_X3_sample_j2_5 (rba rup rsa rri rse : Int32) (e1 : Int64) : Int32 := if (f_X3_sample_j1_1 rba rup e1) = (0 : Int32) then rse else (if rup = (0 : Int32) then (f_X3_noteRise_j1_1 (rsa + (1 : Int32)) rri rse) else rse)
def f_X3_sample_j2_6 (rba rup : Int32) (rgr e1 mv : Int64) : Int64 := if (f_X3_sample_j1_1 rba rup e1) = (0 : Int32) then (if mv < rgr then rgr else mv) else (if rup = (0 : Int32) then mv else (if mv < rgr then rgr else mv))
def f_X3_sample_j2_7 (rba rup : Int32) (rle e1 mv : Int64) : Int64 := if (f_X3_sample_j1_1 rba rup e1) = (0 : Int32) then (if mv < rle then mv else rle) else (if rup = (0 : Int32) then mv else (if mv < rle then mv else rle))
def f_X3_sample_j3_1 (rpr rba rup rsa rri : Int32) (e1 : Int64) : Int32 := if (f_X3_sample_j2_1 rpr rba rup rri e1) = (1 : Int32) then (if (rsa + (1 : Int32)) < (400 : Int32) then (f_X3_sample_j2_1 rpr rba rup rri e1) else (3 : Int32)) else (f_X3_sample_j2_1 rpr rba rup rri e1)
def f_X3_sample_rsa (rsa : Int32) : Int32 := (rsa + (1 : Int32))
set_option maxHeartbeats 4000000 in
set_option maxRecDepth 100000 in
theorem c_X3_sample (l : Launch) (dC : Nat → ClassId) (dI : Nat → Nat → Nat) (cI cJ cZ cO : ClassId) (adr : Nat) (rpr rpe : Int32) (rsw rce : Int64) (rhe rba rup rsa rri rse : Int32) (rgr rle e1 mv : Int64) (sz : Nat)  : Met l yX3_sample (Cond.code yX3_sample cX3_sample 6 none :: wAll) ({ frames := 1, cells := 0, slots := 0, locals := 22 }) (va_Pc [.ref adr, .long e1, .long mv] (gP (dC, dI) [zX3 adr rpr rpe rsw rce rhe rba rup rsa rri rse rgr rle] (tyG cI cJ cZ cO) sz gN)) (va_Qv (fun (_ : Unit) => True) (fun _ t => gB (dC, dI) (va_A [zX3 adr rpr rpe rsw rce rhe rba rup rsa rri rse rgr rle] sz) [zX3 adr (f_X3_sample_j3_1 rpr rba rup rsa rri e1) (f_X3_sample_j2_2 rpe rba rup rsa rri rse e1) (f_X3_sample_j2_3 rsw rba rup rri rgr rle e1) rce rhe rba (f_X3_sample_j1_1 rba rup e1) (f_X3_sample_rsa rsa) (f_X3_sample_j2_4 rba rup rri e1) (f_X3_sample_j2_5 rba rup rsa rri rse e1) (f_X3_sample_j2_6 rba rup rgr e1 mv) (f_X3_sample_j2_7 rba rup rle e1 mv)] (tyG cI cJ cZ cO) t) (va_A [zX3 adr rpr rpe rsw rce rhe rba rup rsa rri rse rgr rle] sz)) 0 0 (va_A [zX3 adr rpr rpe rsw rce rhe rba rup rsa rri rse rgr rle] sz) := by
  refine Met.ofW (cc := cX3_sample) (maxL := 6) (ret := none) (by decide) rfl ?_
  intro p e s m args below meth c s₁ B hml hv
  obtain ⟨rfl, hsz, hP, hK, hD0, hG⟩ := hv
  have hx := B.exec
  have hb := B.bytes
  have hr := B.returns
  have hts := ht_of B.pre
  have hown : s.vm.findClass RX3 = some m.cls := findClass_of_methodNamed B.named
  have hlocks := B.notSynchronized
  subst hsz
  have hD := hD0.self (sz := s.heap.size)
  generalize hAe : va_A [zX3 adr rpr rpe rsw rce rhe rba rup rsa rri rse rgr rle] s.heap.size = A at hD ⊢
  have hA : ∀ q : Nat, s.heap.size ≤ q → A q := fun q h => by rw [← hAe]; exact Or.inr h
  have hS : va_S A s.heap s.heap [] := va_S.rf
  have hP : va_P (dC, dI) vwCl [zX3 adr rpr rpe rsw rce rhe rba rup rsa rri rse rgr rle] s.heap := hP
  have hl := lv_entry ([.ref adr, .long e1, .long mv]) (n := 6) (Nat.le_of_ble_eq_true rfl)
  rw [lg_entry_eq]
  generalize (lg_sl ([.ref adr, .long e1, .long mv]) ++ List.replicate (6 - (lg_sl ([.ref adr, .long e1, .long mv])).length) Slot.unset).toArray = ls at hl ⊢
  have hl : lv_has ls 6 [(0, .ref adr), (1, .long e1), (3, .long mv)] := hl
  refine hh_name (fun Q hQ => ?_)
  refine lv_aload_n hx hb dX3_sample_0 rfl (lv_at hl 0 rfl) ?_
  refine lv_dup hx hb dX3_sample_1 rfl ?_
  refine va_get (D := (dC, dI)) (ci := 3) (v := .int rsa) (C := RX3) (T := TX3) (N := 12) hx hb hts inW_X3 hown hK hP 0 rfl rfl 7 (by decide) (hts _ wd_1_183) (fun _ h9 => h9) rfl dX3_sample_2 ?_
  refine lv_iconst (v := 1) hx hb dX3_sample_5 (by decide) ?_
  refine lv_iadd hx hb dX3_sample_6 ?_
  refine va_put (D := (dC, dI)) (ci := 3) (v := .int (rsa + (1 : Int32))) (ty := .int) (C := RX3) (T := TX3) (N := 12) hx hb hts inW_X3 tyX3 tyX3_ok nmX3 hown hK hP hD hS 0 rfl rfl 7 (by decide) (hts _ wd_1_183) (fun _ h9 => h9) rfl (tyX3_ok 7 (by decide)) rfl rfl (Nat.le_of_ble_eq_true rfl) dX3_sample_7 (fun H locs hP hD hS => ?_)
  have hP : va_P (dC, dI) vwCl [zX3 adr rpr rpe rsw rce rhe rba rup (rsa + (1 : Int32)) rri rse rgr rle] H := hP
  have hD : va_D A [zX3 adr rpr rpe rsw rce rhe rba rup (rsa + (1 : Int32)) rri rse rgr rle] := hD
  refine lv_aload_n hx hb dX3_sample_10 rfl (lv_at hl 0 rfl) ?_
  refine va_get (D := (dC, dI)) (ci := 3) (v := .int rup) (C := RX3) (T := TX3) (N := 12) hx hb hts inW_X3 hown hK hP 0 rfl rfl 6 (by decide) (hts _ wd_1_182) (fun _ h9 => h9) rfl dX3_sample_11 ?_
  refine lv_istore (lv' := [(5, .int rup), (0, .ref adr), (1, .long e1), (3, .long mv)]) hx hb dX3_sample_14 hl (by decide) rfl (fun ls hl => ?_)
  refine lv_lload_n hx hb dX3_sample_16 rfl (lv_at hl 2 rfl) ?_
  refine lv_aload_n hx hb dX3_sample_17 rfl (lv_at hl 1 rfl) ?_
  refine va_get (D := (dC, dI)) (ci := 3) (v := .int rba) (C := RX3) (T := TX3) (N := 12) hx hb hts inW_X3 hown hK hP 0 rfl rfl 5 (by decide) (hts _ wd_1_181) (fun _ h9 => h9) rfl dX3_sample_18 ?_
  refine lv_i2l hx hb dX3_sample_21 rfl ?_
  have J1 : ∀ (H : Heap) (locs : List Loc) (ls : Array Slot), va_P (dC, dI) vwCl [zX3 adr rpr rpe rsw rce rhe rba (f_X3_sample_j1_1 rba rup e1) (rsa + (1 : Int32)) rri rse rgr rle] H → va_D A [zX3 adr rpr rpe rsw rce rhe rba (f_X3_sample_j1_1 rba rup e1) (rsa + (1 : Int32)) rri rse rgr rle] → va_S A s.heap H locs → lv_has ls 6 [(5, .int rup), (0, .ref adr), (1, .long e1), (3, .long mv)] → W p l e (headSpec (Cond.code yX3_sample cX3_sample 6 none :: wAll) ({ frames := 1, cells := 0, slots := 0, locals := 22 })).room s m ([.ref adr, .long e1, .long mv] : List Value).toArray below meth c H locs 0 0 Q (F0 m 50 ls []) := by
    intro H locs ls hP hD hS hl
    refine lv_aload_n hx hb dX3_sample_50 rfl (lv_at hl 1 rfl) ?_
    refine va_get (D := (dC, dI)) (ci := 3) (v := .int (f_X3_sample_j1_1 rba rup e1)) (C := RX3) (T := TX3) (N := 12) hx hb hts inW_X3 hown hK hP 0 rfl rfl 6 (by decide) (hts _ wd_1_182) (fun _ h9 => h9) rfl dX3_sample_51 ?_
    have J2 : ∀ (H : Heap) (locs : List Loc) (ls : Array Slot), va_P (dC, dI) vwCl [zX3 adr (f_X3_sample_j2_1 rpr rba rup rri e1) (f_X3_sample_j2_2 rpe rba rup rsa rri rse e1) (f_X3_sample_j2_3 rsw rba rup rri rgr rle e1) rce rhe rba (f_X3_sample_j1_1 rba rup e1) (rsa + (1 : Int32)) (f_X3_sample_j2_4 rba rup rri e1) (f_X3_sample_j2_5 rba rup rsa rri rse e1) (f_X3_sample_j2_6 rba rup rgr e1 mv) (f_X3_sample_j2_7 rba rup rle e1 mv)] H → va_D A [zX3 adr (f_X3_sample_j2_1 rpr rba rup rri e1) (f_X3_sample_j2_2 rpe rba rup rsa rri rse e1) (f_X3_sample_j2_3 rsw rba rup rri rgr rle e1) rce rhe rba (f_X3_sample_j1_1 rba rup e1) (rsa + (1 : Int32)) (f_X3_sample_j2_4 rba rup rri e1) (f_X3_sample_j2_5 rba rup rsa rri rse e1) (f_X3_sample_j2_6 rba rup rgr e1 mv) (f_X3_sample_j2_7 rba rup rle e1 mv)] → va_S A s.heap H locs → lv_has ls 6 [(5, .int rup), (0, .ref adr), (1, .long e1), (3, .long mv)] → W p l e (headSpec (Cond.code yX3_sample cX3_sample 6 none :: wAll) ({ frames := 1, cells := 0, slots := 0, locals := 22 })).room s m ([.ref adr, .long e1, .long mv] : List Value).toArray below meth c H locs 0 0 Q (F0 m 94 ls []) := by
      intro H locs ls hP hD hS hl
      refine lv_aload_n hx hb dX3_sample_94 rfl (lv_at hl 1 rfl) ?_
      refine va_get (D := (dC, dI)) (ci := 3) (v := .int (f_X3_sample_j2_1 rpr rba rup rri e1)) (C := RX3) (T := TX3) (N := 12) hx hb hts inW_X3 hown hK hP 0 rfl rfl 0 (by decide) (hts _ wd_1_171) (fun _ h9 => h9) rfl dX3_sample_95 ?_
      refine lv_iconst (v := 1) hx hb dX3_sample_98 (by decide) ?_
      have J3 : ∀ (H : Heap) (locs : List Loc) (ls : Array Slot), va_P (dC, dI) vwCl [zX3 adr (f_X3_sample_j3_1 rpr rba rup rsa rri e1) (f_X3_sample_j2_2 rpe rba rup rsa rri rse e1) (f_X3_sample_j2_3 rsw rba rup rri rgr rle e1) rce rhe rba (f_X3_sample_j1_1 rba rup e1) (rsa + (1 : Int32)) (f_X3_sample_j2_4 rba rup rri e1) (f_X3_sample_j2_5 rba rup rsa rri rse e1) (f_X3_sample_j2_6 rba rup rgr e1 mv) (f_X3_sample_j2_7 rba rup rle e1 mv)] H → va_D A [zX3 adr (f_X3_sample_j3_1 rpr rba rup rsa rri e1) (f_X3_sample_j2_2 rpe rba rup rsa rri rse e1) (f_X3_sample_j2_3 rsw rba rup rri rgr rle e1) rce rhe rba (f_X3_sample_j1_1 rba rup e1) (rsa + (1 : Int32)) (f_X3_sample_j2_4 rba rup rri e1) (f_X3_sample_j2_5 rba rup rsa rri rse e1) (f_X3_sample_j2_6 rba rup rgr e1 mv) (f_X3_sample_j2_7 rba rup rle e1 mv)] → va_S A s.heap H locs → lv_has ls 6 [(5, .int rup), (0, .ref adr), (1, .long e1), (3, .long mv)] → W p l e (headSpec (Cond.code yX3_sample cX3_sample 6 none :: wAll) ({ frames := 1, cells := 0, slots := 0, locals := 22 })).room s m ([.ref adr, .long e1, .long mv] : List Value).toArray below meth c H locs 0 0 Q (F0 m 117 ls []) := by
        intro H locs ls hP hD hS hl
        exact hh_retv hQ hx hb hr hlocks hP hK hD hS dX3_sample_117
      refine lv_icmp_ne (tgt := 117) hx hb dX3_sample_99 (by decide) (fun h5 => ?_) (fun h5 => ?_)
      · skip
        have e7 : (f_X3_sample_j3_1 rpr rba rup rsa rri e1) = (f_X3_sample_j2_1 rpr rba rup rri e1) := if_neg h5
        exact J3 _ _ _ (by rw [show (f_X3_sample_j3_1 rpr rba rup rsa rri e1) = (f_X3_sample_j2_1 rpr rba rup rri e1) from if_neg h5]; exact hP) (by rw [show (f_X3_sample_j3_1 rpr rba rup rsa rri e1) = (f_X3_sample_j2_1 rpr rba rup rri e1) from if_neg h5]; exact hD) hS (lv_sub hl [0, 1, 2, 3] rfl)
      · skip
        refine lv_aload_n hx hb dX3_sample_102 rfl (lv_at hl 1 rfl) ?_
        refine va_get (D := (dC, dI)) (ci := 3) (v := .int (rsa + (1 : Int32))) (C := RX3) (T := TX3) (N := 12) hx hb hts inW_X3 hown hK hP 0 rfl rfl 7 (by decide) (hts _ wd_1_183) (fun _ h9 => h9) rfl dX3_sample_103 ?_
        refine lv_sipush (v := 400) hx hb dX3_sample_106 (by decide) ?_
        refine lv_icmp_lt (tgt := 117) hx hb dX3_sample_109 (by decide) (fun h6 => ?_) (fun h6 => ?_)
        · skip
          have e8 : (f_X3_sample_j3_1 rpr rba rup rsa rri e1) = (f_X3_sample_j2_1 rpr rba rup rri e1) := (if_pos h5).trans (if_pos h6)
          exact J3 _ _ _ (by rw [show (f_X3_sample_j3_1 rpr rba rup rsa rri e1) = (f_X3_sample_j2_1 rpr rba rup rri e1) from (if_pos h5).trans (if_pos h6)]; exact hP) (by rw [show (f_X3_sample_j3_1 rpr rba rup rsa rri e1) = (f_X3_sample_j2_1 rpr rba rup rri e1) from (if_pos h5).trans (if_pos h6)]; exact hD) hS (lv_sub hl [0, 1, 2, 3] rfl)
        · skip
          refine lv_aload_n hx hb dX3_sample_112 rfl (lv_at hl 1 rfl) ?_
          refine lv_iconst (v := 3) hx hb dX3_sample_113 (by decide) ?_
          refine va_put (D := (dC, dI)) (ci := 3) (v := .int (3 : Int32)) (ty := .int) (C := RX3) (T := TX3) (N := 12) hx hb hts inW_X3 tyX3 tyX3_ok nmX3 hown hK hP hD hS 0 rfl rfl 0 (by decide) (hts _ wd_1_171) (fun _ h9 => h9) rfl (tyX3_ok 0 (by decide)) rfl rfl (Nat.le_of_ble_eq_true rfl) dX3_sample_114 (fun H locs hP hD hS => ?_)
          have hP : va_P (dC, dI) vwCl [zX3 adr (3 : Int32) (f_X3_sample_j2_2 rpe rba rup rsa rri rse e1) (f_X3_sample_j2_3 rsw rba rup rri rgr rle e1) rce rhe rba (f_X3_sample_j1_1 rba rup e1) (rsa + (1 : Int32)) (f_X3_sample_j2_4 rba rup rri e1) (f_X3_sample_j2_5 rba rup rsa rri rse e1) (f_X3_sample_j2_6 rba rup rgr e1 mv) (f_X3_sample_j2_7 rba rup rle e1 mv)] H := hP
          have hD : va_D A [zX3 adr (3 : Int32) (f_X3_sample_j2_2 rpe rba rup rsa rri rse e1) (f_X3_sample_j2_3 rsw rba rup rri rgr rle e1) rce rhe rba (f_X3_sample_j1_1 rba rup e1) (rsa + (1 : Int32)) (f_X3_sample_j2_4 rba rup rri e1) (f_X3_sample_j2_5 rba rup rsa rri rse e1) (f_X3_sample_j2_6 rba rup rgr e1 mv) (f_X3_sample_j2_7 rba rup rle e1 mv)] := hD
          have e9 : (f_X3_sample_j3_1 rpr rba rup rsa rri e1) = (3 : Int32) := (if_pos h5).trans (if_neg h6)
          exact J3 _ _ _ (by rw [show (f_X3_sample_j3_1 rpr rba rup rsa rri e1) = (3 : Int32) from (if_pos h5).trans (if_neg h6)]; exact hP) (by rw [show (f_X3_sample_j3_1 rpr rba rup rsa rri e1) = (3 : Int32) from (if_pos h5).trans (if_neg h6)]; exact hD) hS (lv_sub hl [0, 1, 2, 3] rfl)
    refine lv_if_eq (tgt := 70) hx hb dX3_sample_54 (by decide) (fun h3 => ?_) (fun h3 => ?_)
    · skip
      refine lv_aload_n hx hb dX3_sample_70 rfl (lv_at hl 1 rfl) ?_
      refine lv_aload_n hx hb dX3_sample_71 rfl (lv_at hl 1 rfl) ?_
      refine va_get (D := (dC, dI)) (ci := 3) (v := .long rgr) (C := RX3) (T := TX3) (N := 12) hx hb hts inW_X3 hown hK hP 0 rfl rfl 10 (by decide) (hts _ wd_1_186) (fun _ h9 => h9) rfl dX3_sample_72 ?_
      refine lv_lload_n hx hb dX3_sample_75 rfl (lv_at hl 3 rfl) ?_
      refine va_mmax_long hx hb (hml.trans hl.1.symm) hown (hts _ wd_3_112) (hts _ wd_3_93) (hts _ wd_1_13) (hts _ wd_3_94) (Nat.le_of_ble_eq_true rfl) (Nat.le_of_ble_eq_true rfl) (Nat.le_of_ble_eq_true rfl) (Nat.le_of_ble_eq_true rfl) dX3_sample_76 ?_
      refine va_put (D := (dC, dI)) (ci := 3) (v := .long (if mv < rgr then rgr else mv)) (ty := .long) (C := RX3) (T := TX3) (N := 12) hx hb hts inW_X3 tyX3 tyX3_ok nmX3 hown hK hP hD hS 0 rfl rfl 10 (by decide) (hts _ wd_1_186) (fun _ h9 => h9) rfl (tyX3_ok 10 (by decide)) rfl rfl (Nat.le_of_ble_eq_true rfl) dX3_sample_79 (fun H locs hP hD hS => ?_)
      have hP : va_P (dC, dI) vwCl [zX3 adr rpr rpe rsw rce rhe rba (f_X3_sample_j1_1 rba rup e1) (rsa + (1 : Int32)) rri rse (if mv < rgr then rgr else mv) rle] H := hP
      have hD : va_D A [zX3 adr rpr rpe rsw rce rhe rba (f_X3_sample_j1_1 rba rup e1) (rsa + (1 : Int32)) rri rse (if mv < rgr then rgr else mv) rle] := hD
      refine lv_aload_n hx hb dX3_sample_82 rfl (lv_at hl 1 rfl) ?_
      refine lv_aload_n hx hb dX3_sample_83 rfl (lv_at hl 1 rfl) ?_
      refine va_get (D := (dC, dI)) (ci := 3) (v := .long rle) (C := RX3) (T := TX3) (N := 12) hx hb hts inW_X3 hown hK hP 0 rfl rfl 11 (by decide) (hts _ wd_1_187) (fun _ h9 => h9) rfl dX3_sample_84 ?_
      refine lv_lload_n hx hb dX3_sample_87 rfl (lv_at hl 3 rfl) ?_
      refine va_mmin_long hx hb (hml.trans hl.1.symm) hown (hts _ wd_3_113) (hts _ wd_3_90) (hts _ wd_1_13) (hts _ wd_3_91) (Nat.le_of_ble_eq_true rfl) (Nat.le_of_ble_eq_true rfl) (Nat.le_of_ble_eq_true rfl) (Nat.le_of_ble_eq_true rfl) dX3_sample_88 ?_
      refine va_put (D := (dC, dI)) (ci := 3) (v := .long (if mv < rle then mv else rle)) (ty := .long) (C := RX3) (T := TX3) (N := 12) hx hb hts inW_X3 tyX3 tyX3_ok nmX3 hown hK hP hD hS 0 rfl rfl 11 (by decide) (hts _ wd_1_187) (fun _ h9 => h9) rfl (tyX3_ok 11 (by decide)) rfl rfl (Nat.le_of_ble_eq_true rfl) dX3_sample_91 (fun H locs hP hD hS => ?_)
      have hP : va_P (dC, dI) vwCl [zX3 adr rpr rpe rsw rce rhe rba (f_X3_sample_j1_1 rba rup e1) (rsa + (1 : Int32)) rri rse (if mv < rgr then rgr else mv) (if mv < rle then mv else rle)] H := hP
      have hD : va_D A [zX3 adr rpr rpe rsw rce rhe rba (f_X3_sample_j1_1 rba rup e1) (rsa + (1 : Int32)) rri rse (if mv < rgr then rgr else mv) (if mv < rle then mv else rle)] := hD
      have e10 : (f_X3_sample_j2_1 rpr rba rup rri e1) = rpr := if_pos h3
      have e11 : (f_X3_sample_j2_2 rpe rba rup rsa rri rse e1) = rpe := if_pos h3
      have e12 : (f_X3_sample_j2_3 rsw rba rup rri rgr rle e1) = rsw := if_pos h3
      have e13 : (f_X3_sample_j2_4 rba rup rri e1) = rri := if_pos h3
      have e14 : (f_X3_sample_j2_5 rba rup rsa rri rse e1) = rse := if_pos h3
      have e15 : (f_X3_sample_j2_6 rba rup rgr e1 mv) = (if mv < rgr then rgr else mv) := if_pos h3
      have e16 : (f_X3_sample_j2_7 rba rup rle e1 mv) = (if mv < rle then mv else rle) := if_pos h3
      exact J2 _ _ _ (by rw [show (f_X3_sample_j2_1 rpr rba rup rri e1) = rpr from if_pos h3, show (f_X3_sample_j2_2 rpe rba rup rsa rri rse e1) = rpe from if_pos h3, show (f_X3_sample_j2_3 rsw rba rup rri rgr rle e1) = rsw from if_pos h3, show (f_X3_sample_j2_4 rba rup rri e1) = rri from if_pos h3, show (f_X3_sample_j2_5 rba rup rsa rri rse e1) = rse from if_pos h3, show (f_X3_sample_j2_6 rba rup rgr e1 mv) = (if mv < rgr then rgr else mv) from if_pos h3, show (f_X3_sample_j2_7 rba rup rle e1 mv) = (if mv < rle then mv else rle) from if_pos h3]; exact hP) (by rw [show (f_X3_sample_j2_1 rpr rba rup rri e1) = rpr from if_pos h3, show (f_X3_sample_j2_2 rpe rba rup rsa rri rse e1) = rpe from if_pos h3, show (f_X3_sample_j2_3 rsw rba rup rri rgr rle e1) = rsw from if_pos h3, show (f_X3_sample_j2_4 rba rup rri e1) = rri from if_pos h3, show (f_X3_sample_j2_5 rba rup rsa rri rse e1) = rse from if_pos h3, show (f_X3_sample_j2_6 rba rup rgr e1 mv) = (if mv < rgr then rgr else mv) from if_pos h3, show (f_X3_sample_j2_7 rba rup rle e1 mv) = (if mv < rle then mv else rle) from if_pos h3]; exact hD) hS (lv_sub hl [0, 1, 2, 3] rfl)
    · skip
      refine lv_iload hx hb dX3_sample_57 (lv_at hl 0 rfl) ?_
      refine lv_if_ne (tgt := 70) hx hb dX3_sample_59 (by decide) (fun h4 => ?_) (fun h4 => ?_)
      · skip
        refine lv_aload_n hx hb dX3_sample_70 rfl (lv_at hl 1 rfl) ?_
        refine lv_aload_n hx hb dX3_sample_71 rfl (lv_at hl 1 rfl) ?_
        refine va_get (D := (dC, dI)) (ci := 3) (v := .long rgr) (C := RX3) (T := TX3) (N := 12) hx hb hts inW_X3 hown hK hP 0 rfl rfl 10 (by decide) (hts _ wd_1_186) (fun _ h9 => h9) rfl dX3_sample_72 ?_
        refine lv_lload_n hx hb dX3_sample_75 rfl (lv_at hl 3 rfl) ?_
        refine va_mmax_long hx hb (hml.trans hl.1.symm) hown (hts _ wd_3_112) (hts _ wd_3_93) (hts _ wd_1_13) (hts _ wd_3_94) (Nat.le_of_ble_eq_true rfl) (Nat.le_of_ble_eq_true rfl) (Nat.le_of_ble_eq_true rfl) (Nat.le_of_ble_eq_true rfl) dX3_sample_76 ?_
        refine va_put (D := (dC, dI)) (ci := 3) (v := .long (if mv < rgr then rgr else mv)) (ty := .long) (C := RX3) (T := TX3) (N := 12) hx hb hts inW_X3 tyX3 tyX3_ok nmX3 hown hK hP hD hS 0 rfl rfl 10 (by decide) (hts _ wd_1_186) (fun _ h9 => h9) rfl (tyX3_ok 10 (by decide)) rfl rfl (Nat.le_of_ble_eq_true rfl) dX3_sample_79 (fun H locs hP hD hS => ?_)
        have hP : va_P (dC, dI) vwCl [zX3 adr rpr rpe rsw rce rhe rba (f_X3_sample_j1_1 rba rup e1) (rsa + (1 : Int32)) rri rse (if mv < rgr then rgr else mv) rle] H := hP
        have hD : va_D A [zX3 adr rpr rpe rsw rce rhe rba (f_X3_sample_j1_1 rba rup e1) (rsa + (1 : Int32)) rri rse (if mv < rgr then rgr else mv) rle] := hD
        refine lv_aload_n hx hb dX3_sample_82 rfl (lv_at hl 1 rfl) ?_
        refine lv_aload_n hx hb dX3_sample_83 rfl (lv_at hl 1 rfl) ?_
        refine va_get (D := (dC, dI)) (ci := 3) (v := .long rle) (C := RX3) (T := TX3) (N := 12) hx hb hts inW_X3 hown hK hP 0 rfl rfl 11 (by decide) (hts _ wd_1_187) (fun _ h9 => h9) rfl dX3_sample_84 ?_
        refine lv_lload_n hx hb dX3_sample_87 rfl (lv_at hl 3 rfl) ?_
        refine va_mmin_long hx hb (hml.trans hl.1.symm) hown (hts _ wd_3_113) (hts _ wd_3_90) (hts _ wd_1_13) (hts _ wd_3_91) (Nat.le_of_ble_eq_true rfl) (Nat.le_of_ble_eq_true rfl) (Nat.le_of_ble_eq_true rfl) (Nat.le_of_ble_eq_true rfl) dX3_sample_88 ?_
        refine va_put (D := (dC, dI)) (ci := 3) (v := .long (if mv < rle then mv else rle)) (ty := .long) (C := RX3) (T := TX3) (N := 12) hx hb hts inW_X3 tyX3 tyX3_ok nmX3 hown hK hP hD hS 0 rfl rfl 11 (by decide) (hts _ wd_1_187) (fun _ h9 => h9) rfl (tyX3_ok 11 (by decide)) rfl rfl (Nat.le_of_ble_eq_true rfl) dX3_sample_91 (fun H locs hP hD hS => ?_)
        have hP : va_P (dC, dI) vwCl [zX3 adr rpr rpe rsw rce rhe rba (f_X3_sample_j1_1 rba rup e1) (rsa + (1 : Int32)) rri rse (if mv < rgr then rgr else mv) (if mv < rle then mv else rle)] H := hP
        have hD : va_D A [zX3 adr rpr rpe rsw rce rhe rba (f_X3_sample_j1_1 rba rup e1) (rsa + (1 : Int32)) rri rse (if mv < rgr then rgr else mv) (if mv < rle then mv else rle)] := hD
        have e17 : (f_X3_sample_j2_1 rpr rba rup rri e1) = rpr := (if_neg h3).trans (if_neg h4)
        have e18 : (f_X3_sample_j2_2 rpe rba rup rsa rri rse e1) = rpe := (if_neg h3).trans (if_neg h4)
        have e19 : (f_X3_sample_j2_3 rsw rba rup rri rgr rle e1) = rsw := (if_neg h3).trans (if_neg h4)
        have e20 : (f_X3_sample_j2_4 rba rup rri e1) = rri := (if_neg h3).trans (if_neg h4)
        have e21 : (f_X3_sample_j2_5 rba rup rsa rri rse e1) = rse := (if_neg h3).trans (if_neg h4)
        have e22 : (f_X3_sample_j2_6 rba rup rgr e1 mv) = (if mv < rgr then rgr else mv) := (if_neg h3).trans (if_neg h4)
        have e23 : (f_X3_sample_j2_7 rba rup rle e1 mv) = (if mv < rle then mv else rle) := (if_neg h3).trans (if_neg h4)
        exact J2 _ _ _ (by rw [show (f_X3_sample_j2_1 rpr rba rup rri e1) = rpr from (if_neg h3).trans (if_neg h4), show (f_X3_sample_j2_2 rpe rba rup rsa rri rse e1) = rpe from (if_neg h3).trans (if_neg h4), show (f_X3_sample_j2_3 rsw rba rup rri rgr rle e1) = rsw from (if_neg h3).trans (if_neg h4), show (f_X3_sample_j2_4 rba rup rri e1) = rri from (if_neg h3).trans (if_neg h4), show (f_X3_sample_j2_5 rba rup rsa rri rse e1) = rse from (if_neg h3).trans (if_neg h4), show (f_X3_sample_j2_6 rba rup rgr e1 mv) = (if mv < rgr then rgr else mv) from (if_neg h3).trans (if_neg h4), show (f_X3_sample_j2_7 rba rup rle e1 mv) = (if mv < rle then mv else rle) from (if_neg h3).trans (if_neg h4)]; exact hP) (by rw [show (f_X3_sample_j2_1 rpr rba rup rri e1) = rpr from (if_neg h3).trans (if_neg h4), show (f_X3_sample_j2_2 rpe rba rup rsa rri rse e1) = rpe from (if_neg h3).trans (if_neg h4), show (f_X3_sample_j2_3 rsw rba rup rri rgr rle e1) = rsw from (if_neg h3).trans (if_neg h4), show (f_X3_sample_j2_4 rba rup rri e1) = rri from (if_neg h3).trans (if_neg h4), show (f_X3_sample_j2_5 rba rup rsa rri rse e1) = rse from (if_neg h3).trans (if_neg h4), show (f_X3_sample_j2_6 rba rup rgr e1 mv) = (if mv < rgr then rgr else mv) from (if_neg h3).trans (if_neg h4), show (f_X3_sample_j2_7 rba rup rle e1 mv) = (if mv < rle then mv else rle) from (if_neg h3).trans (if_neg h4)]; exact hD) hS (lv_sub hl [0, 1, 2, 3] rfl)
      · skip
        refine lv_aload_n hx hb dX3_sample_62 rfl (lv_at hl 1 rfl) ?_
        refine lv_lload_n hx hb dX3_sample_63 rfl (lv_at hl 3 rfl) ?_
        refine hh_callv (w2 := [zX3 adr (f_X3_noteRise_j2_1 rpr rri) (f_X3_noteRise_j2_2 rpe (rsa + (1 : Int32)) rri rse) (f_X3_noteRise_j2_3 rsw rri rgr rle) rce rhe rba (f_X3_sample_j1_1 rba rup e1) (rsa + (1 : Int32)) (f_X3_noteRise_rri rri) (f_X3_noteRise_j1_1 (rsa + (1 : Int32)) rri rse) mv mv]) (va_runV (As := [.long mv]) (rest := []) ⟨hx, hb, hml, hown, hts⟩ (c_X3_noteRise l dC dI cI cJ cZ cO adr rpr rpe rsw rce rhe rba (f_X3_sample_j1_1 rba rup e1) (rsa + (1 : Int32)) rri rse rgr rle mv _) (cwV 1 hts (gd_V wd_3_108 wd_3_110 wd_p_6 wd_1_6 wd_3_111) rfl rfl rfl (by decide +kernel) ⟨Nat.le_of_ble_eq_true rfl, Nat.le_of_ble_eq_true rfl⟩) (hh_pV (ci := 3) (q := (RX3, TX3, 12)) (q0 := 0) rfl rfl gN_c (fun U _ hW => gN_w hW hG) hK hP hD [0] rfl rfl) rfl rfl hl.1 rfl (lv_room (Nat.le_of_ble_eq_true rfl)) dX3_sample_64 ⟨Nat.le_of_ble_eq_true rfl, Nat.le_of_ble_eq_true rfl⟩) hP hD hS hA [0] [] [0] rfl rfl rfl (by decide) rfl rfl (fun H locs hP hD hS => ?_)
        refine lv_goto (tgt := 94) hx hb dX3_sample_67 (by decide) ?_
        have e24 : (f_X3_sample_j2_1 rpr rba rup rri e1) = (f_X3_noteRise_j2_1 rpr rri) := (if_neg h3).trans (if_pos h4)
        have e25 : (f_X3_sample_j2_2 rpe rba rup rsa rri rse e1) = (f_X3_noteRise_j2_2 rpe (rsa + (1 : Int32)) rri rse) := (if_neg h3).trans (if_pos h4)
        have e26 : (f_X3_sample_j2_3 rsw rba rup rri rgr rle e1) = (f_X3_noteRise_j2_3 rsw rri rgr rle) := (if_neg h3).trans (if_pos h4)
        have e27 : (f_X3_sample_j2_4 rba rup rri e1) = (f_X3_noteRise_rri rri) := (if_neg h3).trans (if_pos h4)
        have e28 : (f_X3_sample_j2_5 rba rup rsa rri rse e1) = (f_X3_noteRise_j1_1 (rsa + (1 : Int32)) rri rse) := (if_neg h3).trans (if_pos h4)
        have e29 : (f_X3_sample_j2_6 rba rup rgr e1 mv) = mv := (if_neg h3).trans (if_pos h4)
        have e30 : (f_X3_sample_j2_7 rba rup rle e1 mv) = mv := (if_neg h3).trans (if_pos h4)
        exact J2 _ _ _ (by rw [show (f_X3_sample_j2_1 rpr rba rup rri e1) = (f_X3_noteRise_j2_1 rpr rri) from (if_neg h3).trans (if_pos h4), show (f_X3_sample_j2_2 rpe rba rup rsa rri rse e1) = (f_X3_noteRise_j2_2 rpe (rsa + (1 : Int32)) rri rse) from (if_neg h3).trans (if_pos h4), show (f_X3_sample_j2_3 rsw rba rup rri rgr rle e1) = (f_X3_noteRise_j2_3 rsw rri rgr rle) from (if_neg h3).trans (if_pos h4), show (f_X3_sample_j2_4 rba rup rri e1) = (f_X3_noteRise_rri rri) from (if_neg h3).trans (if_pos h4), show (f_X3_sample_j2_5 rba rup rsa rri rse e1) = (f_X3_noteRise_j1_1 (rsa + (1 : Int32)) rri rse) from (if_neg h3).trans (if_pos h4), show (f_X3_sample_j2_6 rba rup rgr e1 mv) = mv from (if_neg h3).trans (if_pos h4), show (f_X3_sample_j2_7 rba rup rle e1 mv) = mv from (if_neg h3).trans (if_pos h4)]; exact hP) (by rw [show (f_X3_sample_j2_1 rpr rba rup rri e1) = (f_X3_noteRise_j2_1 rpr rri) from (if_neg h3).trans (if_pos h4), show (f_X3_sample_j2_2 rpe rba rup rsa rri rse e1) = (f_X3_noteRise_j2_2 rpe (rsa + (1 : Int32)) rri rse) from (if_neg h3).trans (if_pos h4), show (f_X3_sample_j2_3 rsw rba rup rri rgr rle e1) = (f_X3_noteRise_j2_3 rsw rri rgr rle) from (if_neg h3).trans (if_pos h4), show (f_X3_sample_j2_4 rba rup rri e1) = (f_X3_noteRise_rri rri) from (if_neg h3).trans (if_pos h4), show (f_X3_sample_j2_5 rba rup rsa rri rse e1) = (f_X3_noteRise_j1_1 (rsa + (1 : Int32)) rri rse) from (if_neg h3).trans (if_pos h4), show (f_X3_sample_j2_6 rba rup rgr e1 mv) = mv from (if_neg h3).trans (if_pos h4), show (f_X3_sample_j2_7 rba rup rle e1 mv) = mv from (if_neg h3).trans (if_pos h4)]; exact hD) hS (lv_sub hl [0, 1, 2, 3] rfl)
  refine hh_cle (tgt := 34) hx hb dX3_sample_22 dX3_sample_23 (by decide) (fun h1 => ?_) (fun h1 => ?_)
  · skip
    refine lv_lload_n hx hb dX3_sample_34 rfl (lv_at hl 2 rfl) ?_
    refine lv_aload_n hx hb dX3_sample_35 rfl (lv_at hl 1 rfl) ?_
    refine va_get (D := (dC, dI)) (ci := 3) (v := .int rba) (C := RX3) (T := TX3) (N := 12) hx hb hts inW_X3 hown hK hP 0 rfl rfl 5 (by decide) (hts _ wd_1_181) (fun _ h9 => h9) rfl dX3_sample_36 ?_
    refine lv_ineg hx hb dX3_sample_39 ?_
    refine lv_i2l hx hb dX3_sample_40 rfl ?_
    refine hh_cge (tgt := 50) hx hb dX3_sample_41 dX3_sample_42 (by decide) (fun h2 => ?_) (fun h2 => ?_)
    · skip
      have e31 : (f_X3_sample_j1_1 rba rup e1) = rup := (if_pos h1).trans (if_pos h2)
      exact J1 _ _ _ (by rw [show (f_X3_sample_j1_1 rba rup e1) = rup from (if_pos h1).trans (if_pos h2)]; exact hP) (by rw [show (f_X3_sample_j1_1 rba rup e1) = rup from (if_pos h1).trans (if_pos h2)]; exact hD) hS (lv_sub hl [0, 1, 2, 3] rfl)
    · skip
      refine lv_aload_n hx hb dX3_sample_45 rfl (lv_at hl 1 rfl) ?_
      refine lv_iconst (v := 0) hx hb dX3_sample_46 (by decide) ?_
      refine va_put (D := (dC, dI)) (ci := 3) (v := .int (0 : Int32)) (ty := .boolean) (C := RX3) (T := TX3) (N := 12) hx hb hts inW_X3 tyX3 tyX3_ok nmX3 hown hK hP hD hS 0 rfl rfl 6 (by decide) (hts _ wd_1_182) (fun _ h9 => h9) rfl (tyX3_ok 6 (by decide)) rfl rfl (Nat.le_of_ble_eq_true rfl) dX3_sample_47 (fun H locs hP hD hS => ?_)
      have hP : va_P (dC, dI) vwCl [zX3 adr rpr rpe rsw rce rhe rba (0 : Int32) (rsa + (1 : Int32)) rri rse rgr rle] H := hP
      have hD : va_D A [zX3 adr rpr rpe rsw rce rhe rba (0 : Int32) (rsa + (1 : Int32)) rri rse rgr rle] := hD
      have e32 : (f_X3_sample_j1_1 rba rup e1) = (0 : Int32) := (if_pos h1).trans (if_neg h2)
      exact J1 _ _ _ (by rw [show (f_X3_sample_j1_1 rba rup e1) = (0 : Int32) from (if_pos h1).trans (if_neg h2)]; exact hP) (by rw [show (f_X3_sample_j1_1 rba rup e1) = (0 : Int32) from (if_pos h1).trans (if_neg h2)]; exact hD) hS (lv_sub hl [0, 1, 2, 3] rfl)
  · skip
    refine lv_aload_n hx hb dX3_sample_26 rfl (lv_at hl 1 rfl) ?_
    refine lv_iconst (v := 1) hx hb dX3_sample_27 (by decide) ?_
    refine va_put (D := (dC, dI)) (ci := 3) (v := .int (1 : Int32)) (ty := .boolean) (C := RX3) (T := TX3) (N := 12) hx hb hts inW_X3 tyX3 tyX3_ok nmX3 hown hK hP hD hS 0 rfl rfl 6 (by decide) (hts _ wd_1_182) (fun _ h9 => h9) rfl (tyX3_ok 6 (by decide)) rfl rfl (Nat.le_of_ble_eq_true rfl) dX3_sample_28 (fun H locs hP hD hS => ?_)
    have hP : va_P (dC, dI) vwCl [zX3 adr rpr rpe rsw rce rhe rba (1 : Int32) (rsa + (1 : Int32)) rri rse rgr rle] H := hP
    have hD : va_D A [zX3 adr rpr rpe rsw rce rhe rba (1 : Int32) (rsa + (1 : Int32)) rri rse rgr rle] := hD
    refine lv_goto (tgt := 50) hx hb dX3_sample_31 (by decide) ?_
    have e33 : (f_X3_sample_j1_1 rba rup e1) = (1 : Int32) := if_neg h1
    exact J1 _ _ _ (by rw [show (f_X3_sample_j1_1 rba rup e1) = (1 : Int32) from if_neg h1]; exact hP) (by rw [show (f_X3_sample_j1_1 rba rup e1) = (1 : Int32) from if_neg h1]; exact hD) hS (lv_sub hl [0, 1, 2, 3] rfl)
def f_X3_gainAtTheEdge_j1_1 (rsw : Int64) (rhe : Int32) : Int64 := if rsw ≤ (0 : Int64) then (0 : Int64) else (f_J9_floorDiv_f86c9_r ((904000 : Int64) * rhe.toInt64) ((355 : Int64) * rsw))
set_option maxHeartbeats 4000000 in
set_option maxRecDepth 100000 in
theorem c_X3_gainAtTheEdge (l : Launch) (dC : Nat → ClassId) (dI : Nat → Nat → Nat) (cI cJ cZ cO : ClassId) (adr : Nat) (rpr rpe : Int32) (rsw rce : Int64) (rhe rba rup rsa rri rse : Int32) (rgr rle : Int64) (sz : Nat) (hsw : rsw ≤ (2000000 : Int64)) : Met l yX3_gainAtTheEdge (Cond.code yX3_gainAtTheEdge cX3_gainAtTheEdge 1 (some .long) :: wAll) ({ frames := 1, cells := 0, slots := 0, locals := 25 }) (va_Pc [.ref adr] (gP (dC, dI) [zX3 adr rpr rpe rsw rce rhe rba rup rsa rri rse rgr rle] (tyG cI cJ cZ cO) sz gN)) (va_Ql (fun r (_ : Unit) => r = (f_X3_gainAtTheEdge_j1_1 rsw rhe)) (fun _ t => gB (dC, dI) (va_A [zX3 adr rpr rpe rsw rce rhe rba rup rsa rri rse rgr rle] sz) [zX3 adr rpr rpe rsw rce rhe rba rup rsa rri rse rgr rle] (tyG cI cJ cZ cO) t) (va_A [zX3 adr rpr rpe rsw rce rhe rba rup rsa rri rse rgr rle] sz)) 0 0 (va_A [zX3 adr rpr rpe rsw rce rhe rba rup rsa rri rse rgr rle] sz) := by
  refine Met.ofW (cc := cX3_gainAtTheEdge) (maxL := 1) (ret := (some .long)) (by decide) rfl ?_
  intro p e s m args below meth c s₁ B hml hv
  obtain ⟨rfl, hsz, hP, hK, hD0, hG⟩ := hv
  have hx := B.exec
  have hb := B.bytes
  have hr := B.returns
  have hts := ht_of B.pre
  have hown : s.vm.findClass RX3 = some m.cls := findClass_of_methodNamed B.named
  have hlocks := B.notSynchronized
  subst hsz
  have hD := hD0.self (sz := s.heap.size)
  generalize hAe : va_A [zX3 adr rpr rpe rsw rce rhe rba rup rsa rri rse rgr rle] s.heap.size = A at hD ⊢
  have hA : ∀ q : Nat, s.heap.size ≤ q → A q := fun q h => by rw [← hAe]; exact Or.inr h
  have hS : va_S A s.heap s.heap [] := va_S.rf
  have hP : va_P (dC, dI) vwCl [zX3 adr rpr rpe rsw rce rhe rba rup rsa rri rse rgr rle] s.heap := hP
  have hl := lv_entry ([.ref adr]) (n := 1) (Nat.le_of_ble_eq_true rfl)
  rw [lg_entry_eq]
  generalize (lg_sl ([.ref adr]) ++ List.replicate (1 - (lg_sl ([.ref adr])).length) Slot.unset).toArray = ls at hl ⊢
  have hl : lv_has ls 1 [(0, .ref adr)] := hl
  refine hh_name (fun Q hQ => ?_)
  refine lv_aload_n hx hb dX3_gainAtTheEdge_0 rfl (lv_at hl 0 rfl) ?_
  refine va_get (D := (dC, dI)) (ci := 3) (v := .long rsw) (C := RX3) (T := TX3) (N := 12) hx hb hts inW_X3 hown hK hP 0 rfl rfl 2 (by decide) (hts _ wd_1_176) (fun _ h9 => h9) rfl dX3_gainAtTheEdge_1 ?_
  refine lv_lconst (v := 0) hx hb dX3_gainAtTheEdge_4 (by decide) ?_
  have J1 : ∀ (H : Heap) (locs : List Loc) (ls : Array Slot), va_P (dC, dI) vwCl [zX3 adr rpr rpe rsw rce rhe rba rup rsa rri rse rgr rle] H → va_D A [zX3 adr rpr rpe rsw rce rhe rba rup rsa rri rse rgr rle] → va_S A s.heap H locs → lv_has ls 1 [(0, .ref adr)] → W p l e (headSpec (Cond.code yX3_gainAtTheEdge cX3_gainAtTheEdge 1 (some .long) :: wAll) ({ frames := 1, cells := 0, slots := 0, locals := 25 })).room s m ([.ref adr] : List Value).toArray below meth c H locs 0 0 Q (F0 m 33 ls [.long (f_X3_gainAtTheEdge_j1_1 rsw rhe)]) := by
    intro H locs ls hP hD hS hl
    exact hh_retl hQ (rfl) hx hb hr hlocks hP hK hD hS dX3_gainAtTheEdge_33
  refine hh_cle (tgt := 32) hx hb dX3_gainAtTheEdge_5 dX3_gainAtTheEdge_6 (by decide) (fun h1 => ?_) (fun h1 => ?_)
  · skip
    refine lv_lconst (v := 0) hx hb dX3_gainAtTheEdge_32 (by decide) ?_
    have e2 : (f_X3_gainAtTheEdge_j1_1 rsw rhe) = (0 : Int64) := if_pos h1
    refine hh_setl (y := (f_X3_gainAtTheEdge_j1_1 rsw rhe)) (if_pos h1) ?_
    exact J1 _ _ _ (hP) (hD) hS (lv_sub hl [0] rfl)
  · skip
    refine lv_ldc2 (v := 904000) hx hb hown (hts _ wd_3_208) dX3_gainAtTheEdge_9 ?_
    refine lv_aload_n hx hb dX3_gainAtTheEdge_12 rfl (lv_at hl 0 rfl) ?_
    refine va_get (D := (dC, dI)) (ci := 3) (v := .int rhe) (C := RX3) (T := TX3) (N := 12) hx hb hts inW_X3 hown hK hP 0 rfl rfl 4 (by decide) (hts _ wd_1_180) (fun _ h9 => h9) rfl dX3_gainAtTheEdge_13 ?_
    refine lv_i2l hx hb dX3_gainAtTheEdge_16 rfl ?_
    refine lv_lmul hx hb dX3_gainAtTheEdge_17 ?_
    refine lv_ldc2 (v := 355) hx hb hown (hts _ wd_3_209) dX3_gainAtTheEdge_18 ?_
    refine lv_aload_n hx hb dX3_gainAtTheEdge_21 rfl (lv_at hl 0 rfl) ?_
    refine va_get (D := (dC, dI)) (ci := 3) (v := .long rsw) (C := RX3) (T := TX3) (N := 12) hx hb hts inW_X3 hown hK hP 0 rfl rfl 2 (by decide) (hts _ wd_1_176) (fun _ h9 => h9) rfl dX3_gainAtTheEdge_22 ?_
    refine lv_lmul hx hb dX3_gainAtTheEdge_25 ?_
    refine hh_calll (w2 := [zX3 adr rpr rpe rsw rce rhe rba rup rsa rri rse rgr rle]) (va_runS (As := [.long ((904000 : Int64) * rhe.toInt64), .long ((355 : Int64) * rsw)]) (rest := []) ⟨hx, hb, hml, hown, hts⟩ (c_J9_floorDiv_f86c9 l dC dI cI cJ cZ cO ((904000 : Int64) * rhe.toInt64) ((355 : Int64) * rsw) _ (nz_355 (by assumption) hsw)) (va_cwS 2 hts (gd_S wd_3_210 wd_3_142 wd_1_13 wd_3_143) rfl rfl rfl (by decide +kernel) ⟨Nat.le_of_ble_eq_true rfl, Nat.le_of_ble_eq_true rfl⟩) (hh_pS gU_c (fun _ _ _ => trivial) hK hP hD [] rfl rfl) rfl rfl hl.1 rfl (lv_room (Nat.le_of_ble_eq_true rfl)) dX3_gainAtTheEdge_26 ⟨Nat.le_of_ble_eq_true rfl, Nat.le_of_ble_eq_true rfl⟩) hP hD hS hA [] [0] [0] rfl rfl rfl (by decide) rfl rfl (fun H locs hP hD hS => ?_)
    refine lv_goto (tgt := 33) hx hb dX3_gainAtTheEdge_29 (by decide) ?_
    have e3 : (f_X3_gainAtTheEdge_j1_1 rsw rhe) = (f_J9_floorDiv_f86c9_r ((904000 : Int64) * rhe.toInt64) ((355 : Int64) * rsw)) := if_neg h1
    refine hh_setl (y := (f_X3_gainAtTheEdge_j1_1 rsw rhe)) (if_neg h1) ?_
    exact J1 _ _ _ (hP) (hD) hS (lv_sub hl [0] rfl)
def f_X3_proposedP_j1_1 (rsw : Int64) (rhe ru : Int32) : Int64 := if ru = (0 : Int32) then (((6 : Int64) * (f_X3_gainAtTheEdge_j1_1 rsw rhe)) / (10 : Int64)) else (((10 : Int64) * (f_X3_gainAtTheEdge_j1_1 rsw rhe)) / (22 : Int64))
set_option maxHeartbeats 4000000 in
set_option maxRecDepth 100000 in
theorem c_X3_proposedP (l : Launch) (dC : Nat → ClassId) (dI : Nat → Nat → Nat) (cI cJ cZ cO : ClassId) (adr : Nat) (rpr rpe : Int32) (rsw rce : Int64) (rhe rba rup rsa rri rse : Int32) (rgr rle : Int64) (ru : Int32) (sz : Nat) (hsw : rsw ≤ (2000000 : Int64)) : Met l yX3_proposedP (Cond.code yX3_proposedP cX3_proposedP 4 (some .long) :: wAll) ({ frames := 2, cells := 0, slots := 0, locals := 45 }) (va_Pc [.ref adr, .int ru] (gP (dC, dI) [zX3 adr rpr rpe rsw rce rhe rba rup rsa rri rse rgr rle] (tyG cI cJ cZ cO) sz gN)) (va_Ql (fun r (_ : Unit) => r = (f_X3_proposedP_j1_1 rsw rhe ru)) (fun _ t => gB (dC, dI) (va_A [zX3 adr rpr rpe rsw rce rhe rba rup rsa rri rse rgr rle] sz) [zX3 adr rpr rpe rsw rce rhe rba rup rsa rri rse rgr rle] (tyG cI cJ cZ cO) t) (va_A [zX3 adr rpr rpe rsw rce rhe rba rup rsa rri rse rgr rle] sz)) 0 0 (va_A [zX3 adr rpr rpe rsw rce rhe rba rup rsa rri rse rgr rle] sz) := by
  refine Met.ofW (cc := cX3_proposedP) (maxL := 4) (ret := (some .long)) (by decide) rfl ?_
  intro p e s m args below meth c s₁ B hml hv
  obtain ⟨rfl, hsz, hP, hK, hD0, hG⟩ := hv
  have hx := B.exec
  have hb := B.bytes
  have hr := B.returns
  have hts := ht_of B.pre
  have hown : s.vm.findClass RX3 = some m.cls := findClass_of_methodNamed B.named
  have hlocks := B.notSynchronized
  subst hsz
  have hD := hD0.self (sz := s.heap.size)
  generalize hAe : va_A [zX3 adr rpr rpe rsw rce rhe rba rup rsa rri rse rgr rle] s.heap.size = A at hD ⊢
  have hA : ∀ q : Nat, s.heap.size ≤ q → A q := fun q h => by rw [← hAe]; exact Or.inr h
  have hS : va_S A s.heap s.heap [] := va_S.rf
  have hP : va_P (dC, dI) vwCl [zX3 adr rpr rpe rsw rce rhe rba rup rsa rri rse rgr rle] s.heap := hP
  have hl := lv_entry ([.ref adr, .int ru]) (n := 4) (Nat.le_of_ble_eq_true rfl)
  rw [lg_entry_eq]
  generalize (lg_sl ([.ref adr, .int ru]) ++ List.replicate (4 - (lg_sl ([.ref adr, .int ru])).length) Slot.unset).toArray = ls at hl ⊢
  have hl : lv_has ls 4 [(0, .ref adr), (1, .int ru)] := hl
  refine hh_name (fun Q hQ => ?_)
  refine lv_aload_n hx hb dX3_proposedP_0 rfl (lv_at hl 0 rfl) ?_
  refine hh_calll (w2 := [zX3 adr rpr rpe rsw rce rhe rba rup rsa rri rse rgr rle]) (va_runV (As := []) (rest := []) ⟨hx, hb, hml, hown, hts⟩ (c_X3_gainAtTheEdge l dC dI cI cJ cZ cO adr rpr rpe rsw rce rhe rba rup rsa rri rse rgr rle _ hsw) (cwV 0 hts (gd_V wd_3_225 wd_3_205 wd_3_206 wd_1_6 wd_3_207) rfl rfl rfl (by decide +kernel) ⟨Nat.le_of_ble_eq_true rfl, Nat.le_of_ble_eq_true rfl⟩) (hh_pV (ci := 3) (q := (RX3, TX3, 12)) (q0 := 0) rfl rfl gN_c (fun U _ hW => gN_w hW hG) hK hP hD [0] rfl rfl) rfl rfl hl.1 rfl (lv_room (Nat.le_of_ble_eq_true rfl)) dX3_proposedP_1 ⟨Nat.le_of_ble_eq_true rfl, Nat.le_of_ble_eq_true rfl⟩) hP hD hS hA [0] [] [0] rfl rfl rfl (by decide) rfl rfl (fun H locs hP hD hS => ?_)
  refine lv_lstore_n (lv' := [(2, .long (f_X3_gainAtTheEdge_j1_1 rsw rhe)), (0, .ref adr), (1, .int ru)]) hx hb dX3_proposedP_4 rfl hl (by decide) rfl (fun ls hl => ?_)
  refine lv_iload_n hx hb dX3_proposedP_5 rfl (lv_at hl 2 rfl) ?_
  have J1 : ∀ (H : Heap) (locs : List Loc) (ls : Array Slot), va_P (dC, dI) vwCl [zX3 adr rpr rpe rsw rce rhe rba rup rsa rri rse rgr rle] H → va_D A [zX3 adr rpr rpe rsw rce rhe rba rup rsa rri rse rgr rle] → va_S A s.heap H locs → lv_has ls 4 [(2, .long (f_X3_gainAtTheEdge_j1_1 rsw rhe)), (0, .ref adr), (1, .int ru)] → W p l e (headSpec (Cond.code yX3_proposedP cX3_proposedP 4 (some .long) :: wAll) ({ frames := 2, cells := 0, slots := 0, locals := 45 })).room s m ([.ref adr, .int ru] : List Value).toArray below meth c H locs 0 0 Q (F0 m 30 ls [.long (f_X3_proposedP_j1_1 rsw rhe ru)]) := by
    intro H locs ls hP hD hS hl
    exact hh_retl hQ (rfl) hx hb hr hlocks hP hK hD hS dX3_proposedP_30
  refine lv_if_ne (tgt := 21) hx hb dX3_proposedP_6 (by decide) (fun h1 => ?_) (fun h1 => ?_)
  · skip
    refine lv_ldc2 (v := 10) hx hb hown (hts _ wd_3_227) dX3_proposedP_21 ?_
    refine lv_lload_n hx hb dX3_proposedP_24 rfl (lv_at hl 0 rfl) ?_
    refine lv_lmul hx hb dX3_proposedP_25 ?_
    refine lv_ldc2 (v := 22) hx hb hown (hts _ wd_3_228) dX3_proposedP_26 ?_
    refine lv_ldiv hx hb dX3_proposedP_29 (by decide) ?_
    have e2 : (f_X3_proposedP_j1_1 rsw rhe ru) = (((10 : Int64) * (f_X3_gainAtTheEdge_j1_1 rsw rhe)) / (22 : Int64)) := if_neg h1
    refine hh_setl (y := (f_X3_proposedP_j1_1 rsw rhe ru)) (if_neg h1) ?_
    exact J1 _ _ _ (hP) (hD) hS (lv_sub hl [0, 1, 2] rfl)
  · skip
    refine lv_ldc2 (v := 6) hx hb hown (hts _ wd_3_226) dX3_proposedP_9 ?_
    refine lv_lload_n hx hb dX3_proposedP_12 rfl (lv_at hl 0 rfl) ?_
    refine lv_lmul hx hb dX3_proposedP_13 ?_
    refine lv_ldc2 (v := 10) hx hb hown (hts _ wd_3_227) dX3_proposedP_14 ?_
    refine lv_ldiv hx hb dX3_proposedP_17 (by decide) ?_
    refine lv_goto (tgt := 30) hx hb dX3_proposedP_18 (by decide) ?_
    have e3 : (f_X3_proposedP_j1_1 rsw rhe ru) = (((6 : Int64) * (f_X3_gainAtTheEdge_j1_1 rsw rhe)) / (10 : Int64)) := if_pos h1
    refine hh_setl (y := (f_X3_proposedP_j1_1 rsw rhe ru)) (if_pos h1) ?_
    exact J1 _ _ _ (hP) (hD) hS (lv_sub hl [0, 1, 2] rfl)
def f_X3_proposedI_j1_1 (rpe : Int32) (rsw : Int64) (rhe ru : Int32) : Int64 := if ru = (0 : Int32) then (((12 : Int64) * (f_X3_gainAtTheEdge_j1_1 rsw rhe)) / ((10 : Int64) * rpe.toInt64)) else (((100 : Int64) * (f_X3_gainAtTheEdge_j1_1 rsw rhe)) / ((484 : Int64) * rpe.toInt64))
def f_X3_proposedI_r (rpe : Int32) (rsw : Int64) (rhe ru : Int32) : Int64 := if (0 : Int32) < rpe then (f_X3_proposedI_j1_1 rpe rsw rhe ru) else (0 : Int64)
set_option maxHeartbeats 4000000 in
set_option maxRecDepth 100000 in
theorem c_X3_proposedI (l : Launch) (dC : Nat → ClassId) (dI : Nat → Nat → Nat) (cI cJ cZ cO : ClassId) (adr : Nat) (rpr rpe : Int32) (rsw rce : Int64) (rhe rba rup rsa rri rse : Int32) (rgr rle : Int64) (ru : Int32) (sz : Nat) (hsw : rsw ≤ (2000000 : Int64)) : Met l yX3_proposedI (Cond.code yX3_proposedI cX3_proposedI 4 (some .long) :: wAll) ({ frames := 2, cells := 0, slots := 0, locals := 45 }) (va_Pc [.ref adr, .int ru] (gP (dC, dI) [zX3 adr rpr rpe rsw rce rhe rba rup rsa rri rse rgr rle] (tyG cI cJ cZ cO) sz gN)) (va_Ql (fun r (_ : Unit) => r = (f_X3_proposedI_r rpe rsw rhe ru)) (fun _ t => gB (dC, dI) (va_A [zX3 adr rpr rpe rsw rce rhe rba rup rsa rri rse rgr rle] sz) [zX3 adr rpr rpe rsw rce rhe rba rup rsa rri rse rgr rle] (tyG cI cJ cZ cO) t) (va_A [zX3 adr rpr rpe rsw rce rhe rba rup rsa rri rse rgr rle] sz)) 0 0 (va_A [zX3 adr rpr rpe rsw rce rhe rba rup rsa rri rse rgr rle] sz) := by
  refine Met.ofW (cc := cX3_proposedI) (maxL := 4) (ret := (some .long)) (by decide) rfl ?_
  intro p e s m args below meth c s₁ B hml hv
  obtain ⟨rfl, hsz, hP, hK, hD0, hG⟩ := hv
  have hx := B.exec
  have hb := B.bytes
  have hr := B.returns
  have hts := ht_of B.pre
  have hown : s.vm.findClass RX3 = some m.cls := findClass_of_methodNamed B.named
  have hlocks := B.notSynchronized
  subst hsz
  have hD := hD0.self (sz := s.heap.size)
  generalize hAe : va_A [zX3 adr rpr rpe rsw rce rhe rba rup rsa rri rse rgr rle] s.heap.size = A at hD ⊢
  have hA : ∀ q : Nat, s.heap.size ≤ q → A q := fun q h => by rw [← hAe]; exact Or.inr h
  have hS : va_S A s.heap s.heap [] := va_S.rf
  have hP : va_P (dC, dI) vwCl [zX3 adr rpr rpe rsw rce rhe rba rup rsa rri rse rgr rle] s.heap := hP
  have hl := lv_entry ([.ref adr, .int ru]) (n := 4) (Nat.le_of_ble_eq_true rfl)
  rw [lg_entry_eq]
  generalize (lg_sl ([.ref adr, .int ru]) ++ List.replicate (4 - (lg_sl ([.ref adr, .int ru])).length) Slot.unset).toArray = ls at hl ⊢
  have hl : lv_has ls 4 [(0, .ref adr), (1, .int ru)] := hl
  refine hh_name (fun Q hQ => ?_)
  refine lv_aload_n hx hb dX3_proposedI_0 rfl (lv_at hl 0 rfl) ?_
  refine hh_calll (w2 := [zX3 adr rpr rpe rsw rce rhe rba rup rsa rri rse rgr rle]) (va_runV (As := []) (rest := []) ⟨hx, hb, hml, hown, hts⟩ (c_X3_gainAtTheEdge l dC dI cI cJ cZ cO adr rpr rpe rsw rce rhe rba rup rsa rri rse rgr rle _ hsw) (cwV 0 hts (gd_V wd_3_225 wd_3_205 wd_3_206 wd_1_6 wd_3_207) rfl rfl rfl (by decide +kernel) ⟨Nat.le_of_ble_eq_true rfl, Nat.le_of_ble_eq_true rfl⟩) (hh_pV (ci := 3) (q := (RX3, TX3, 12)) (q0 := 0) rfl rfl gN_c (fun U _ hW => gN_w hW hG) hK hP hD [0] rfl rfl) rfl rfl hl.1 rfl (lv_room (Nat.le_of_ble_eq_true rfl)) dX3_proposedI_1 ⟨Nat.le_of_ble_eq_true rfl, Nat.le_of_ble_eq_true rfl⟩) hP hD hS hA [0] [] [0] rfl rfl rfl (by decide) rfl rfl (fun H locs hP hD hS => ?_)
  refine lv_lstore_n (lv' := [(2, .long (f_X3_gainAtTheEdge_j1_1 rsw rhe)), (0, .ref adr), (1, .int ru)]) hx hb dX3_proposedI_4 rfl hl (by decide) rfl (fun ls hl => ?_)
  refine lv_aload_n hx hb dX3_proposedI_5 rfl (lv_at hl 1 rfl) ?_
  refine va_get (D := (dC, dI)) (ci := 3) (v := .int rpe) (C := RX3) (T := TX3) (N := 12) hx hb hts inW_X3 hown hK hP 0 rfl rfl 1 (by decide) (hts _ wd_1_174) (fun _ h9 => h9) rfl dX3_proposedI_6 ?_
  refine lv_if_gt (tgt := 14) hx hb dX3_proposedI_9 (by decide) (fun h1 => ?_) (fun h1 => ?_)
  · skip
    refine lv_iload_n hx hb dX3_proposedI_14 rfl (lv_at hl 2 rfl) ?_
    have J1 : ∀ (H : Heap) (locs : List Loc) (ls : Array Slot), va_P (dC, dI) vwCl [zX3 adr rpr rpe rsw rce rhe rba rup rsa rri rse rgr rle] H → va_D A [zX3 adr rpr rpe rsw rce rhe rba rup rsa rri rse rgr rle] → va_S A s.heap H locs → lv_has ls 4 [(2, .long (f_X3_gainAtTheEdge_j1_1 rsw rhe)), (0, .ref adr), (1, .int ru)] → W p l e (headSpec (Cond.code yX3_proposedI cX3_proposedI 4 (some .long) :: wAll) ({ frames := 2, cells := 0, slots := 0, locals := 45 })).room s m ([.ref adr, .int ru] : List Value).toArray below meth c H locs 0 0 Q (F0 m 51 ls [.long (f_X3_proposedI_j1_1 rpe rsw rhe ru)]) := by
      intro H locs ls hP hD hS hl
      exact hh_retl hQ ((if_pos h1).symm) hx hb hr hlocks hP hK hD hS dX3_proposedI_51
    refine lv_if_ne (tgt := 36) hx hb dX3_proposedI_15 (by decide) (fun h2 => ?_) (fun h2 => ?_)
    · skip
      refine lv_ldc2 (v := 100) hx hb hown (hts _ wd_3_235) dX3_proposedI_36 ?_
      refine lv_lload_n hx hb dX3_proposedI_39 rfl (lv_at hl 0 rfl) ?_
      refine lv_lmul hx hb dX3_proposedI_40 ?_
      refine lv_ldc2 (v := 484) hx hb hown (hts _ wd_3_236) dX3_proposedI_41 ?_
      refine lv_aload_n hx hb dX3_proposedI_44 rfl (lv_at hl 1 rfl) ?_
      refine va_get (D := (dC, dI)) (ci := 3) (v := .int rpe) (C := RX3) (T := TX3) (N := 12) hx hb hts inW_X3 hown hK hP 0 rfl rfl 1 (by decide) (hts _ wd_1_174) (fun _ h9 => h9) rfl dX3_proposedI_45 ?_
      refine lv_i2l hx hb dX3_proposedI_48 rfl ?_
      refine lv_lmul hx hb dX3_proposedI_49 ?_
      refine lv_ldiv hx hb dX3_proposedI_50 (nz_k (by assumption) (by decide) (by decide)) ?_
      have e3 : (f_X3_proposedI_j1_1 rpe rsw rhe ru) = (((100 : Int64) * (f_X3_gainAtTheEdge_j1_1 rsw rhe)) / ((484 : Int64) * rpe.toInt64)) := if_neg h2
      refine hh_setl (y := (f_X3_proposedI_j1_1 rpe rsw rhe ru)) (if_neg h2) ?_
      exact J1 _ _ _ (hP) (hD) hS (lv_sub hl [0, 1, 2] rfl)
    · skip
      refine lv_ldc2 (v := 12) hx hb hown (hts _ wd_3_234) dX3_proposedI_18 ?_
      refine lv_lload_n hx hb dX3_proposedI_21 rfl (lv_at hl 0 rfl) ?_
      refine lv_lmul hx hb dX3_proposedI_22 ?_
      refine lv_ldc2 (v := 10) hx hb hown (hts _ wd_3_227) dX3_proposedI_23 ?_
      refine lv_aload_n hx hb dX3_proposedI_26 rfl (lv_at hl 1 rfl) ?_
      refine va_get (D := (dC, dI)) (ci := 3) (v := .int rpe) (C := RX3) (T := TX3) (N := 12) hx hb hts inW_X3 hown hK hP 0 rfl rfl 1 (by decide) (hts _ wd_1_174) (fun _ h9 => h9) rfl dX3_proposedI_27 ?_
      refine lv_i2l hx hb dX3_proposedI_30 rfl ?_
      refine lv_lmul hx hb dX3_proposedI_31 ?_
      refine lv_ldiv hx hb dX3_proposedI_32 (nz_k (by assumption) (by decide) (by decide)) ?_
      refine lv_goto (tgt := 51) hx hb dX3_proposedI_33 (by decide) ?_
      have e4 : (f_X3_proposedI_j1_1 rpe rsw rhe ru) = (((12 : Int64) * (f_X3_gainAtTheEdge_j1_1 rsw rhe)) / ((10 : Int64) * rpe.toInt64)) := if_pos h2
      refine hh_setl (y := (f_X3_proposedI_j1_1 rpe rsw rhe ru)) (if_pos h2) ?_
      exact J1 _ _ _ (hP) (hD) hS (lv_sub hl [0, 1, 2] rfl)
  · skip
    refine lv_lconst (v := 0) hx hb dX3_proposedI_12 (by decide) ?_
    exact hh_retl hQ ((if_neg h1).symm) hx hb hr hlocks hP hK hD hS dX3_proposedI_13
def f_X3_proposedD_j1_1 (rpe : Int32) (rsw : Int64) (rhe ru : Int32) : Int64 := if ru = (0 : Int32) then ((((3 : Int64) * (f_X3_gainAtTheEdge_j1_1 rsw rhe)) * rpe.toInt64) / (40 : Int64)) else ((((100 : Int64) * (f_X3_gainAtTheEdge_j1_1 rsw rhe)) * rpe.toInt64) / (1386 : Int64))
set_option maxHeartbeats 4000000 in
set_option maxRecDepth 100000 in
theorem c_X3_proposedD (l : Launch) (dC : Nat → ClassId) (dI : Nat → Nat → Nat) (cI cJ cZ cO : ClassId) (adr : Nat) (rpr rpe : Int32) (rsw rce : Int64) (rhe rba rup rsa rri rse : Int32) (rgr rle : Int64) (ru : Int32) (sz : Nat) (hsw : rsw ≤ (2000000 : Int64)) : Met l yX3_proposedD (Cond.code yX3_proposedD cX3_proposedD 4 (some .long) :: wAll) ({ frames := 2, cells := 0, slots := 0, locals := 45 }) (va_Pc [.ref adr, .int ru] (gP (dC, dI) [zX3 adr rpr rpe rsw rce rhe rba rup rsa rri rse rgr rle] (tyG cI cJ cZ cO) sz gN)) (va_Ql (fun r (_ : Unit) => r = (f_X3_proposedD_j1_1 rpe rsw rhe ru)) (fun _ t => gB (dC, dI) (va_A [zX3 adr rpr rpe rsw rce rhe rba rup rsa rri rse rgr rle] sz) [zX3 adr rpr rpe rsw rce rhe rba rup rsa rri rse rgr rle] (tyG cI cJ cZ cO) t) (va_A [zX3 adr rpr rpe rsw rce rhe rba rup rsa rri rse rgr rle] sz)) 0 0 (va_A [zX3 adr rpr rpe rsw rce rhe rba rup rsa rri rse rgr rle] sz) := by
  refine Met.ofW (cc := cX3_proposedD) (maxL := 4) (ret := (some .long)) (by decide) rfl ?_
  intro p e s m args below meth c s₁ B hml hv
  obtain ⟨rfl, hsz, hP, hK, hD0, hG⟩ := hv
  have hx := B.exec
  have hb := B.bytes
  have hr := B.returns
  have hts := ht_of B.pre
  have hown : s.vm.findClass RX3 = some m.cls := findClass_of_methodNamed B.named
  have hlocks := B.notSynchronized
  subst hsz
  have hD := hD0.self (sz := s.heap.size)
  generalize hAe : va_A [zX3 adr rpr rpe rsw rce rhe rba rup rsa rri rse rgr rle] s.heap.size = A at hD ⊢
  have hA : ∀ q : Nat, s.heap.size ≤ q → A q := fun q h => by rw [← hAe]; exact Or.inr h
  have hS : va_S A s.heap s.heap [] := va_S.rf
  have hP : va_P (dC, dI) vwCl [zX3 adr rpr rpe rsw rce rhe rba rup rsa rri rse rgr rle] s.heap := hP
  have hl := lv_entry ([.ref adr, .int ru]) (n := 4) (Nat.le_of_ble_eq_true rfl)
  rw [lg_entry_eq]
  generalize (lg_sl ([.ref adr, .int ru]) ++ List.replicate (4 - (lg_sl ([.ref adr, .int ru])).length) Slot.unset).toArray = ls at hl ⊢
  have hl : lv_has ls 4 [(0, .ref adr), (1, .int ru)] := hl
  refine hh_name (fun Q hQ => ?_)
  refine lv_aload_n hx hb dX3_proposedD_0 rfl (lv_at hl 0 rfl) ?_
  refine hh_calll (w2 := [zX3 adr rpr rpe rsw rce rhe rba rup rsa rri rse rgr rle]) (va_runV (As := []) (rest := []) ⟨hx, hb, hml, hown, hts⟩ (c_X3_gainAtTheEdge l dC dI cI cJ cZ cO adr rpr rpe rsw rce rhe rba rup rsa rri rse rgr rle _ hsw) (cwV 0 hts (gd_V wd_3_225 wd_3_205 wd_3_206 wd_1_6 wd_3_207) rfl rfl rfl (by decide +kernel) ⟨Nat.le_of_ble_eq_true rfl, Nat.le_of_ble_eq_true rfl⟩) (hh_pV (ci := 3) (q := (RX3, TX3, 12)) (q0 := 0) rfl rfl gN_c (fun U _ hW => gN_w hW hG) hK hP hD [0] rfl rfl) rfl rfl hl.1 rfl (lv_room (Nat.le_of_ble_eq_true rfl)) dX3_proposedD_1 ⟨Nat.le_of_ble_eq_true rfl, Nat.le_of_ble_eq_true rfl⟩) hP hD hS hA [0] [] [0] rfl rfl rfl (by decide) rfl rfl (fun H locs hP hD hS => ?_)
  refine lv_lstore_n (lv' := [(2, .long (f_X3_gainAtTheEdge_j1_1 rsw rhe)), (0, .ref adr), (1, .int ru)]) hx hb dX3_proposedD_4 rfl hl (by decide) rfl (fun ls hl => ?_)
  refine lv_iload_n hx hb dX3_proposedD_5 rfl (lv_at hl 2 rfl) ?_
  have J1 : ∀ (H : Heap) (locs : List Loc) (ls : Array Slot), va_P (dC, dI) vwCl [zX3 adr rpr rpe rsw rce rhe rba rup rsa rri rse rgr rle] H → va_D A [zX3 adr rpr rpe rsw rce rhe rba rup rsa rri rse rgr rle] → va_S A s.heap H locs → lv_has ls 4 [(2, .long (f_X3_gainAtTheEdge_j1_1 rsw rhe)), (0, .ref adr), (1, .int ru)] → W p l e (headSpec (Cond.code yX3_proposedD cX3_proposedD 4 (some .long) :: wAll) ({ frames := 2, cells := 0, slots := 0, locals := 45 })).room s m ([.ref adr, .int ru] : List Value).toArray below meth c H locs 0 0 Q (F0 m 42 ls [.long (f_X3_proposedD_j1_1 rpe rsw rhe ru)]) := by
    intro H locs ls hP hD hS hl
    exact hh_retl hQ (rfl) hx hb hr hlocks hP hK hD hS dX3_proposedD_42
  refine lv_if_ne (tgt := 27) hx hb dX3_proposedD_6 (by decide) (fun h1 => ?_) (fun h1 => ?_)
  · skip
    refine lv_ldc2 (v := 100) hx hb hown (hts _ wd_3_235) dX3_proposedD_27 ?_
    refine lv_lload_n hx hb dX3_proposedD_30 rfl (lv_at hl 0 rfl) ?_
    refine lv_lmul hx hb dX3_proposedD_31 ?_
    refine lv_aload_n hx hb dX3_proposedD_32 rfl (lv_at hl 1 rfl) ?_
    refine va_get (D := (dC, dI)) (ci := 3) (v := .int rpe) (C := RX3) (T := TX3) (N := 12) hx hb hts inW_X3 hown hK hP 0 rfl rfl 1 (by decide) (hts _ wd_1_174) (fun _ h9 => h9) rfl dX3_proposedD_33 ?_
    refine lv_i2l hx hb dX3_proposedD_36 rfl ?_
    refine lv_lmul hx hb dX3_proposedD_37 ?_
    refine lv_ldc2 (v := 1386) hx hb hown (hts _ wd_4_4) dX3_proposedD_38 ?_
    refine lv_ldiv hx hb dX3_proposedD_41 (by decide) ?_
    have e2 : (f_X3_proposedD_j1_1 rpe rsw rhe ru) = ((((100 : Int64) * (f_X3_gainAtTheEdge_j1_1 rsw rhe)) * rpe.toInt64) / (1386 : Int64)) := if_neg h1
    refine hh_setl (y := (f_X3_proposedD_j1_1 rpe rsw rhe ru)) (if_neg h1) ?_
    exact J1 _ _ _ (hP) (hD) hS (lv_sub hl [0, 1, 2] rfl)
  · skip
    refine lv_ldc2 (v := 3) hx hb hown (hts _ wd_4_2) dX3_proposedD_9 ?_
    refine lv_lload_n hx hb dX3_proposedD_12 rfl (lv_at hl 0 rfl) ?_
    refine lv_lmul hx hb dX3_proposedD_13 ?_
    refine lv_aload_n hx hb dX3_proposedD_14 rfl (lv_at hl 1 rfl) ?_
    refine va_get (D := (dC, dI)) (ci := 3) (v := .int rpe) (C := RX3) (T := TX3) (N := 12) hx hb hts inW_X3 hown hK hP 0 rfl rfl 1 (by decide) (hts _ wd_1_174) (fun _ h9 => h9) rfl dX3_proposedD_15 ?_
    refine lv_i2l hx hb dX3_proposedD_18 rfl ?_
    refine lv_lmul hx hb dX3_proposedD_19 ?_
    refine lv_ldc2 (v := 40) hx hb hown (hts _ wd_4_3) dX3_proposedD_20 ?_
    refine lv_ldiv hx hb dX3_proposedD_23 (by decide) ?_
    refine lv_goto (tgt := 42) hx hb dX3_proposedD_24 (by decide) ?_
    have e3 : (f_X3_proposedD_j1_1 rpe rsw rhe ru) = ((((3 : Int64) * (f_X3_gainAtTheEdge_j1_1 rsw rhe)) * rpe.toInt64) / (40 : Int64)) := if_pos h1
    refine hh_setl (y := (f_X3_proposedD_j1_1 rpe rsw rhe ru)) (if_pos h1) ?_
    exact J1 _ _ _ (hP) (hD) hS (lv_sub hl [0, 1, 2] rfl)
