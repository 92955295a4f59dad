set_option maxHeartbeats 4000000 in
set_option maxRecDepth 100000 in
theorem c_X5_setPlant (l : Launch) (dC : Nat → ClassId) (dI : Nat → Nat → Nat) (cI cJ cZ cO : ClassId) (adB adA : Nat) (bs : Int32) (lf : Nat → Option Nat) (adL adc adp ads adr : Nat) (lmo : Int32) (lha : Int64) (lfo lma lst : Int32) (lou : Int64) (pa1 pa2 pb pdt pld : Int32) (pme pmb : Int64) (ado : Nat) (plt lp a1v a2v bv dtv : Int32) (sz : Nat) (hl0 : ¬ lp < (0 : Int32)) (hl3 : lp < (3 : Int32)) (hlf : lf lp.toNatClampNeg = some adL) (q4 : ¬ a1v < (-2000 : Int32)) (q5 : ¬ (2000 : Int32) < a1v) (q6 : ¬ a2v < (-1000 : Int32)) (q7 : ¬ (1000 : Int32) < a2v) (q8 : ¬ bv < (-2000 : Int32)) (q9 : ¬ (2000 : Int32) < bv) (q10 : ¬ dtv < (0 : Int32)) (q11 : ¬ (10 : Int32) < dtv) : Met l yX5_setPlant (Cond.code yX5_setPlant cX5_setPlant 7 none :: wAll) ({ frames := 2, cells := 0, slots := 0, locals := 42 }) (va_Pc [.ref adB, .int lp, .int a1v, .int a2v, .int bv, .int dtv] (gP (dC, dI) [zX5 adB adA bs, zAL cO adA 3 lf, zX1 adL adc adp ads adr lmo lha lfo lma lst lou, zX2 adp pa1 pa2 pb pdt pld pme pmb ado plt] (tyG cI cJ cZ cO) sz gN)) (va_Qv (fun (_ : Unit) => True) (fun _ t => gB (dC, dI) (va_A [zX5 adB adA bs, zAL cO adA 3 lf, zX1 adL adc adp ads adr lmo lha lfo lma lst lou, zX2 adp pa1 pa2 pb pdt pld pme pmb ado plt] sz) [zX5 adB adA bs, zAL cO adA 3 lf, zX1 adL adc adp ads adr lmo lha lfo lma lst lou, zX2 adp a1v a2v bv dtv pld pme pmb ado plt] (tyG cI cJ cZ cO) t) (va_A [zX5 adB adA bs, zAL cO adA 3 lf, zX1 adL adc adp ads adr lmo lha lfo lma lst lou, zX2 adp pa1 pa2 pb pdt pld pme pmb ado plt] sz)) 0 0 (va_A [zX5 adB adA bs, zAL cO adA 3 lf, zX1 adL adc adp ads adr lmo lha lfo lma lst lou, zX2 adp pa1 pa2 pb pdt pld pme pmb ado plt] sz) := by
  refine Met.ofW (cc := cX5_setPlant) (maxL := 7) (ret := none) (by decide) rfl ?_
  intro p e s m args below meth c s₁ B hml hv
  obtain ⟨rfl, hsz, hP, hK, hD0, hG⟩ := hv
  have hx := B.exec
  have hb := B.bytes
  have hr := B.returns
  have hts := ht_of B.pre
  have hown : s.vm.findClass RX5 = some m.cls := findClass_of_methodNamed B.named
  have hlocks := B.notSynchronized
  subst hsz
  have hD := hD0.self (sz := s.heap.size)
  generalize hAe : va_A [zX5 adB adA bs, zAL cO adA 3 lf, zX1 adL adc adp ads adr lmo lha lfo lma lst lou, zX2 adp pa1 pa2 pb pdt pld pme pmb ado plt] s.heap.size = A at hD ⊢
  have hA : ∀ q : Nat, s.heap.size ≤ q → A q := fun q h => by rw [← hAe]; exact Or.inr h
  have hS : va_S A s.heap s.heap [] := va_S.rf
  have hP : va_P (dC, dI) vwCl [zX5 adB adA bs, zAL cO adA 3 lf, zX1 adL adc adp ads adr lmo lha lfo lma lst lou, zX2 adp pa1 pa2 pb pdt pld pme pmb ado plt] s.heap := hP
  have hl := lv_entry ([.ref adB, .int lp, .int a1v, .int a2v, .int bv, .int dtv]) (n := 7) (Nat.le_of_ble_eq_true rfl)
  rw [lg_entry_eq]
  generalize (lg_sl ([.ref adB, .int lp, .int a1v, .int a2v, .int bv, .int dtv]) ++ List.replicate (7 - (lg_sl ([.ref adB, .int lp, .int a1v, .int a2v, .int bv, .int dtv])).length) Slot.unset).toArray = ls at hl ⊢
  have hl : lv_has ls 7 [(0, .ref adB), (1, .int lp), (2, .int a1v), (3, .int a2v), (4, .int bv), (5, .int dtv)] := hl
  refine hh_name (fun Q hQ => ?_)
  refine lv_aload_n hx hb dX5_setPlant_0 rfl (lv_at hl 0 rfl) ?_
  refine lv_iload_n hx hb dX5_setPlant_1 rfl (lv_at hl 1 rfl) ?_
  refine hh_callq (w2 := [zX5 adB adA bs, zAL cO adA 3 lf, zX1 adL adc adp ads adr lmo lha lfo lma lst lou, zX2 adp pa1 pa2 pb pdt pld pme pmb ado plt]) (va_runV (As := [.int lp]) (rest := []) ⟨hx, hb, hml, hown, hts⟩ (c_X5_loopAt l dC dI cI cJ cZ cO adB adA bs lf lp adL _ hl0 hl3 hlf) (cwV 1 hts (gd_V wd_2_38 wd_2_40 wd_p_0 wd_1_1 wd_2_41) rfl rfl rfl (by decide +kernel) ⟨Nat.le_of_ble_eq_true rfl, Nat.le_of_ble_eq_true rfl⟩) (hh_pV (ci := 5) (q := (RX5, TX5, 2)) (q0 := 0) rfl rfl gN_c (fun U _ hW => gN_w hW hG) hK hP hD [0, 1] rfl rfl) rfl rfl hl.1 rfl (lv_room (Nat.le_of_ble_eq_true rfl)) dX5_setPlant_2 ⟨Nat.le_of_ble_eq_true rfl, Nat.le_of_ble_eq_true rfl⟩) hP hD hS hA [0, 1] [2, 3] [2, 3, 0, 1] rfl rfl rfl (by decide) rfl rfl (fun H locs hP hD hS => ?_)
  refine hh_setv (y := .ref adL) rfl ?_
  refine va_get (D := (dC, dI)) (ci := 1) (v := .ref adp) (C := RX1) (T := TX1) (N := 10) hx hb hts inW_X1 hown hK hP 2 rfl rfl 1 (by decide) (hts _ wd_1_216) (fun _ h9 => h9) rfl dX5_setPlant_5 ?_
  refine lv_astore (lv' := [(6, .ref adp), (0, .ref adB), (1, .int lp), (2, .int a1v), (3, .int a2v), (4, .int bv), (5, .int dtv)]) hx hb dX5_setPlant_8 hl (by decide) rfl (fun ls hl => ?_)
  refine lv_iload_n hx hb dX5_setPlant_10 rfl (lv_at hl 3 rfl) ?_
  refine lv_sipush (v := -2000) hx hb dX5_setPlant_11 (by decide) ?_
  refine lv_sipush (v := 2000) hx hb dX5_setPlant_14 (by decide) ?_
  refine hh_callv (w2 := [zX5 adB adA bs, zAL cO adA 3 lf, zX1 adL adc adp ads adr lmo lha lfo lma lst lou, zX2 adp pa1 pa2 pb pdt pld pme pmb ado plt]) (va_runS (As := [.int a1v, .int (-2000 : Int32), .int (2000 : Int32)]) (rest := []) ⟨hx, hb, hml, hown, hts⟩ (c_X5_requireWithin l dC dI cI cJ cZ cO a1v (-2000 : Int32) (2000 : Int32) _ q4 q5) (va_cwS 3 hts (gd_S wd_2_110 wd_2_111 wd_1_1 wd_2_112) rfl rfl rfl (by decide +kernel) ⟨Nat.le_of_ble_eq_true rfl, Nat.le_of_ble_eq_true rfl⟩) (hh_pS gN_c (fun U _ hW => gN_w hW hG) hK hP hD [] rfl rfl) rfl rfl hl.1 rfl (lv_room (Nat.le_of_ble_eq_true rfl)) dX5_setPlant_17 ⟨Nat.le_of_ble_eq_true rfl, Nat.le_of_ble_eq_true rfl⟩) hP hD hS hA [] [0, 1, 2, 3] [0, 1, 2, 3] rfl rfl rfl (by decide) rfl rfl (fun H locs hP hD hS => ?_)
  refine lv_iload_n hx hb dX5_setPlant_20 rfl (lv_at hl 4 rfl) ?_
  refine lv_sipush (v := -1000) hx hb dX5_setPlant_21 (by decide) ?_
  refine lv_sipush (v := 1000) hx hb dX5_setPlant_24 (by decide) ?_
  refine hh_callv (w2 := [zX5 adB adA bs, zAL cO adA 3 lf, zX1 adL adc adp ads adr lmo lha lfo lma lst lou, zX2 adp pa1 pa2 pb pdt pld pme pmb ado plt]) (va_runS (As := [.int a2v, .int (-1000 : Int32), .int (1000 : Int32)]) (rest := []) ⟨hx, hb, hml, hown, hts⟩ (c_X5_requireWithin l dC dI cI cJ cZ cO a2v (-1000 : Int32) (1000 : Int32) _ q6 q7) (va_cwS 3 hts (gd_S wd_2_110 wd_2_111 wd_1_1 wd_2_112) rfl rfl rfl (by decide +kernel) ⟨Nat.le_of_ble_eq_true rfl, Nat.le_of_ble_eq_true rfl⟩) (hh_pS gN_c (fun U _ hW => gN_w hW hG) hK hP hD [] rfl rfl) rfl rfl hl.1 rfl (lv_room (Nat.le_of_ble_eq_true rfl)) dX5_setPlant_27 ⟨Nat.le_of_ble_eq_true rfl, Nat.le_of_ble_eq_true rfl⟩) hP hD hS hA [] [0, 1, 2, 3] [0, 1, 2, 3] rfl rfl rfl (by decide) rfl rfl (fun H locs hP hD hS => ?_)
  refine lv_iload hx hb dX5_setPlant_30 (lv_at hl 5 rfl) ?_
  refine lv_sipush (v := -2000) hx hb dX5_setPlant_32 (by decide) ?_
  refine lv_sipush (v := 2000) hx hb dX5_setPlant_35 (by decide) ?_
  refine hh_callv (w2 := [zX5 adB adA bs, zAL cO adA 3 lf, zX1 adL adc adp ads adr lmo lha lfo lma lst lou, zX2 adp pa1 pa2 pb pdt pld pme pmb ado plt]) (va_runS (As := [.int bv, .int (-2000 : Int32), .int (2000 : Int32)]) (rest := []) ⟨hx, hb, hml, hown, hts⟩ (c_X5_requireWithin l dC dI cI cJ cZ cO bv (-2000 : Int32) (2000 : Int32) _ q8 q9) (va_cwS 3 hts (gd_S wd_2_110 wd_2_111 wd_1_1 wd_2_112) rfl rfl rfl (by decide +kernel) ⟨Nat.le_of_ble_eq_true rfl, Nat.le_of_ble_eq_true rfl⟩) (hh_pS gN_c (fun U _ hW => gN_w hW hG) hK hP hD [] rfl rfl) rfl rfl hl.1 rfl (lv_room (Nat.le_of_ble_eq_true rfl)) dX5_setPlant_38 ⟨Nat.le_of_ble_eq_true rfl, Nat.le_of_ble_eq_true rfl⟩) hP hD hS hA [] [0, 1, 2, 3] [0, 1, 2, 3] rfl rfl rfl (by decide) rfl rfl (fun H locs hP hD hS => ?_)
  refine lv_iload hx hb dX5_setPlant_41 (lv_at hl 6 rfl) ?_
  refine lv_iconst (v := 0) hx hb dX5_setPlant_43 (by decide) ?_
  refine lv_bipush (v := 10) hx hb dX5_setPlant_44 (by decide) ?_
  refine hh_callv (w2 := [zX5 adB adA bs, zAL cO adA 3 lf, zX1 adL adc adp ads adr lmo lha lfo lma lst lou, zX2 adp pa1 pa2 pb pdt pld pme pmb ado plt]) (va_runS (As := [.int dtv, .int (0 : Int32), .int (10 : Int32)]) (rest := []) ⟨hx, hb, hml, hown, hts⟩ (c_X5_requireWithin l dC dI cI cJ cZ cO dtv (0 : Int32) (10 : Int32) _ q10 q11) (va_cwS 3 hts (gd_S wd_2_110 wd_2_111 wd_1_1 wd_2_112) rfl rfl rfl (by decide +kernel) ⟨Nat.le_of_ble_eq_true rfl, Nat.le_of_ble_eq_true rfl⟩) (hh_pS gN_c (fun U _ hW => gN_w hW hG) hK hP hD [] rfl rfl) rfl rfl hl.1 rfl (lv_room (Nat.le_of_ble_eq_true rfl)) dX5_setPlant_46 ⟨Nat.le_of_ble_eq_true rfl, Nat.le_of_ble_eq_true rfl⟩) hP hD hS hA [] [0, 1, 2, 3] [0, 1, 2, 3] rfl rfl rfl (by decide) rfl rfl (fun H locs hP hD hS => ?_)
  refine lv_aload hx hb dX5_setPlant_49 (lv_at hl 0 rfl) ?_
  refine lv_iload_n hx hb dX5_setPlant_51 rfl (lv_at hl 3 rfl) ?_
  refine va_put (D := (dC, dI)) (ci := 2) (v := .int a1v) (ty := .int) (C := RX2) (T := TX2) (N := 9) hx hb hts inW_X2 tyX2 tyX2_ok nmX2 hown hK hP hD hS 3 rfl rfl 0 (by decide) (hts _ wd_1_46) (fun _ h9 => h9) rfl (tyX2_ok 0 (by decide)) rfl rfl (Nat.le_of_ble_eq_true rfl) dX5_setPlant_52 (fun H locs hP hD hS => ?_)
  have hP : va_P (dC, dI) vwCl [zX5 adB adA bs, zAL cO adA 3 lf, zX1 adL adc adp ads adr lmo lha lfo lma lst lou, zX2 adp a1v pa2 pb pdt pld pme pmb ado plt] H := hP
  have hD : va_D A [zX5 adB adA bs, zAL cO adA 3 lf, zX1 adL adc adp ads adr lmo lha lfo lma lst lou, zX2 adp a1v pa2 pb pdt pld pme pmb ado plt] := hD
  refine lv_aload hx hb dX5_setPlant_55 (lv_at hl 0 rfl) ?_
  refine lv_iload_n hx hb dX5_setPlant_57 rfl (lv_at hl 4 rfl) ?_
  refine va_put (D := (dC, dI)) (ci := 2) (v := .int a2v) (ty := .int) (C := RX2) (T := TX2) (N := 9) hx hb hts inW_X2 tyX2 tyX2_ok nmX2 hown hK hP hD hS 3 rfl rfl 1 (by decide) (hts _ wd_1_48) (fun _ h9 => h9) rfl (tyX2_ok 1 (by decide)) rfl rfl (Nat.le_of_ble_eq_true rfl) dX5_setPlant_58 (fun H locs hP hD hS => ?_)
  have hP : va_P (dC, dI) vwCl [zX5 adB adA bs, zAL cO adA 3 lf, zX1 adL adc adp ads adr lmo lha lfo lma lst lou, zX2 adp a1v a2v pb pdt pld pme pmb ado plt] H := hP
  have hD : va_D A [zX5 adB adA bs, zAL cO adA 3 lf, zX1 adL adc adp ads adr lmo lha lfo lma lst lou, zX2 adp a1v a2v pb pdt pld pme pmb ado plt] := hD
  refine lv_aload hx hb dX5_setPlant_61 (lv_at hl 0 rfl) ?_
  refine lv_iload hx hb dX5_setPlant_63 (lv_at hl 5 rfl) ?_
  refine va_put (D := (dC, dI)) (ci := 2) (v := .int bv) (ty := .int) (C := RX2) (T := TX2) (N := 9) hx hb hts inW_X2 tyX2 tyX2_ok nmX2 hown hK hP hD hS 3 rfl rfl 2 (by decide) (hts _ wd_1_50) (fun _ h9 => h9) rfl (tyX2_ok 2 (by decide)) rfl rfl (Nat.le_of_ble_eq_true rfl) dX5_setPlant_65 (fun H locs hP hD hS => ?_)
  have hP : va_P (dC, dI) vwCl [zX5 adB adA bs, zAL cO adA 3 lf, zX1 adL adc adp ads adr lmo lha lfo lma lst lou, zX2 adp a1v a2v bv pdt pld pme pmb ado plt] H := hP
  have hD : va_D A [zX5 adB adA bs, zAL cO adA 3 lf, zX1 adL adc adp ads adr lmo lha lfo lma lst lou, zX2 adp a1v a2v bv pdt pld pme pmb ado plt] := hD
  refine lv_aload hx hb dX5_setPlant_68 (lv_at hl 0 rfl) ?_
  refine lv_iload hx hb dX5_setPlant_70 (lv_at hl 6 rfl) ?_
  refine va_put (D := (dC, dI)) (ci := 2) (v := .int dtv) (ty := .int) (C := RX2) (T := TX2) (N := 9) hx hb hts inW_X2 tyX2 tyX2_ok nmX2 hown hK hP hD hS 3 rfl rfl 3 (by decide) (hts _ wd_1_52) (fun _ h9 => h9) rfl (tyX2_ok 3 (by decide)) rfl rfl (Nat.le_of_ble_eq_true rfl) dX5_setPlant_72 (fun H locs hP hD hS => ?_)
  have hP : va_P (dC, dI) vwCl [zX5 adB adA bs, zAL cO adA 3 lf, zX1 adL adc adp ads adr lmo lha lfo lma lst lou, zX2 adp a1v a2v bv dtv pld pme pmb ado plt] H := hP
  have hD : va_D A [zX5 adB adA bs, zAL cO adA 3 lf, zX1 adL adc adp ads adr lmo lha lfo lma lst lou, zX2 adp a1v a2v bv dtv pld pme pmb ado plt] := hD
  exact hh_retv hQ hx hb hr hlocks hP hK hD hS dX5_setPlant_75
set_option maxHeartbeats 4000000 in
set_option maxRecDepth 100000 in
theorem c_X5_setLoad (l : Launch) (dC : Nat → ClassId) (dI : Nat → Nat → Nat) (cI cJ cZ cO : ClassId) (adB adA : Nat) (bs : Int32) (lf : Nat → Option Nat) (adL adc adp ads adr : Nat) (lmo : Int32) (lha : Int64) (lfo lma lst : Int32) (lou : Int64) (pa1 pa2 pb pdt pld : Int32) (pme pmb : Int64) (ado : Nat) (plt lp ldv : Int32) (sz : Nat) (hl0 : ¬ lp < (0 : Int32)) (hl3 : lp < (3 : Int32)) (hlf : lf lp.toNatClampNeg = some adL) (q4 : ¬ ldv < (-10000 : Int32)) (q5 : ¬ (10000 : Int32) < ldv) : Met l yX5_setLoad (Cond.code yX5_setLoad cX5_setLoad 5 (some .int) :: wAll) ({ frames := 2, cells := 0, slots := 0, locals := 42 }) (va_Pc [.ref adB, .int lp, .int ldv] (gP (dC, dI) [zX5 adB adA bs, zAL cO adA 3 lf, zX1 adL adc adp ads adr lmo lha lfo lma lst lou, zX2 adp pa1 pa2 pb pdt pld pme pmb ado plt] (tyG cI cJ cZ cO) sz gN)) (va_Qi (fun r (_ : Unit) => r = pld) (fun _ t => gB (dC, dI) (va_A [zX5 adB adA bs, zAL cO adA 3 lf, zX1 adL adc adp ads adr lmo lha lfo lma lst lou, zX2 adp pa1 pa2 pb pdt pld pme pmb ado plt] sz) [zX5 adB adA bs, zAL cO adA 3 lf, zX1 adL adc adp ads adr lmo lha lfo lma lst lou, zX2 adp pa1 pa2 pb pdt ldv pme pmb ado plt] (tyG cI cJ cZ cO) t) (va_A [zX5 adB adA bs, zAL cO adA 3 lf, zX1 adL adc adp ads adr lmo lha lfo lma lst lou, zX2 adp pa1 pa2 pb pdt pld pme pmb ado plt] sz)) 0 0 (va_A [zX5 adB adA bs, zAL cO adA 3 lf, zX1 adL adc adp ads adr lmo lha lfo lma lst lou, zX2 adp pa1 pa2 pb pdt pld pme pmb ado plt] sz) := by
  refine Met.ofW (cc := cX5_setLoad) (maxL := 5) (ret := (some .int)) (by decide) rfl ?_
  intro p e s m args below meth c s₁ B hml hv
  obtain ⟨rfl, hsz, hP, hK, hD0, hG⟩ := hv
  have hx := B.exec
  have hb := B.bytes
  have hr := B.returns
  have hts := ht_of B.pre
  have hown : s.vm.findClass RX5 = some m.cls := findClass_of_methodNamed B.named
  have hlocks := B.notSynchronized
  subst hsz
  have hD := hD0.self (sz := s.heap.size)
  generalize hAe : va_A [zX5 adB adA bs, zAL cO adA 3 lf, zX1 adL adc adp ads adr lmo lha lfo lma lst lou, zX2 adp pa1 pa2 pb pdt pld pme pmb ado plt] s.heap.size = A at hD ⊢
  have hA : ∀ q : Nat, s.heap.size ≤ q → A q := fun q h => by rw [← hAe]; exact Or.inr h
  have hS : va_S A s.heap s.heap [] := va_S.rf
  have hP : va_P (dC, dI) vwCl [zX5 adB adA bs, zAL cO adA 3 lf, zX1 adL adc adp ads adr lmo lha lfo lma lst lou, zX2 adp pa1 pa2 pb pdt pld pme pmb ado plt] s.heap := hP
  have hl := lv_entry ([.ref adB, .int lp, .int ldv]) (n := 5) (Nat.le_of_ble_eq_true rfl)
  rw [lg_entry_eq]
  generalize (lg_sl ([.ref adB, .int lp, .int ldv]) ++ List.replicate (5 - (lg_sl ([.ref adB, .int lp, .int ldv])).length) Slot.unset).toArray = ls at hl ⊢
  have hl : lv_has ls 5 [(0, .ref adB), (1, .int lp), (2, .int ldv)] := hl
  refine hh_name (fun Q hQ => ?_)
  refine lv_aload_n hx hb dX5_setLoad_0 rfl (lv_at hl 0 rfl) ?_
  refine lv_iload_n hx hb dX5_setLoad_1 rfl (lv_at hl 1 rfl) ?_
  refine hh_callq (w2 := [zX5 adB adA bs, zAL cO adA 3 lf, zX1 adL adc adp ads adr lmo lha lfo lma lst lou, zX2 adp pa1 pa2 pb pdt pld pme pmb ado plt]) (va_runV (As := [.int lp]) (rest := []) ⟨hx, hb, hml, hown, hts⟩ (c_X5_loopAt l dC dI cI cJ cZ cO adB adA bs lf lp adL _ hl0 hl3 hlf) (cwV 1 hts (gd_V wd_2_38 wd_2_40 wd_p_0 wd_1_1 wd_2_41) rfl rfl rfl (by decide +kernel) ⟨Nat.le_of_ble_eq_true rfl, Nat.le_of_ble_eq_true rfl⟩) (hh_pV (ci := 5) (q := (RX5, TX5, 2)) (q0 := 0) rfl rfl gN_c (fun U _ hW => gN_w hW hG) hK hP hD [0, 1] rfl rfl) rfl rfl hl.1 rfl (lv_room (Nat.le_of_ble_eq_true rfl)) dX5_setLoad_2 ⟨Nat.le_of_ble_eq_true rfl, Nat.le_of_ble_eq_true rfl⟩) hP hD hS hA [0, 1] [2, 3] [2, 3, 0, 1] rfl rfl rfl (by decide) rfl rfl (fun H locs hP hD hS => ?_)
  refine hh_setv (y := .ref adL) rfl ?_
  refine va_get (D := (dC, dI)) (ci := 1) (v := .ref adp) (C := RX1) (T := TX1) (N := 10) hx hb hts inW_X1 hown hK hP 2 rfl rfl 1 (by decide) (hts _ wd_1_216) (fun _ h9 => h9) rfl dX5_setLoad_5 ?_
  refine lv_astore_n (lv' := [(3, .ref adp), (0, .ref adB), (1, .int lp), (2, .int ldv)]) hx hb dX5_setLoad_8 rfl hl (by decide) rfl (fun ls hl => ?_)
  refine lv_iload_n hx hb dX5_setLoad_9 rfl (lv_at hl 3 rfl) ?_
  refine lv_sipush (v := -10000) hx hb dX5_setLoad_10 (by decide) ?_
  refine lv_sipush (v := 10000) hx hb dX5_setLoad_13 (by decide) ?_
  refine hh_callv (w2 := [zX5 adB adA bs, zAL cO adA 3 lf, zX1 adL adc adp ads adr lmo lha lfo lma lst lou, zX2 adp pa1 pa2 pb pdt pld pme pmb ado plt]) (va_runS (As := [.int ldv, .int (-10000 : Int32), .int (10000 : Int32)]) (rest := []) ⟨hx, hb, hml, hown, hts⟩ (c_X5_requireWithin l dC dI cI cJ cZ cO ldv (-10000 : Int32) (10000 : Int32) _ q4 q5) (va_cwS 3 hts (gd_S wd_2_110 wd_2_111 wd_1_1 wd_2_112) rfl rfl rfl (by decide +kernel) ⟨Nat.le_of_ble_eq_true rfl, Nat.le_of_ble_eq_true rfl⟩) (hh_pS gN_c (fun U _ hW => gN_w hW hG) hK hP hD [] rfl rfl) rfl rfl hl.1 rfl (lv_room (Nat.le_of_ble_eq_true rfl)) dX5_setLoad_16 ⟨Nat.le_of_ble_eq_true rfl, Nat.le_of_ble_eq_true rfl⟩) hP hD hS hA [] [0, 1, 2, 3] [0, 1, 2, 3] rfl rfl rfl (by decide) rfl rfl (fun H locs hP hD hS => ?_)
  refine lv_aload_n hx hb dX5_setLoad_19 rfl (lv_at hl 0 rfl) ?_
  refine va_get (D := (dC, dI)) (ci := 2) (v := .int pld) (C := RX2) (T := TX2) (N := 9) hx hb hts inW_X2 hown hK hP 3 rfl rfl 4 (by decide) (hts _ wd_1_54) (fun _ h9 => h9) rfl dX5_setLoad_20 ?_
  refine lv_istore (lv' := [(4, .int pld), (3, .ref adp), (0, .ref adB), (1, .int lp), (2, .int ldv)]) hx hb dX5_setLoad_23 hl (by decide) rfl (fun ls hl => ?_)
  refine lv_aload_n hx hb dX5_setLoad_25 rfl (lv_at hl 1 rfl) ?_
  refine lv_iload_n hx hb dX5_setLoad_26 rfl (lv_at hl 4 rfl) ?_
  refine va_put (D := (dC, dI)) (ci := 2) (v := .int ldv) (ty := .int) (C := RX2) (T := TX2) (N := 9) hx hb hts inW_X2 tyX2 tyX2_ok nmX2 hown hK hP hD hS 3 rfl rfl 4 (by decide) (hts _ wd_1_54) (fun _ h9 => h9) rfl (tyX2_ok 4 (by decide)) rfl rfl (Nat.le_of_ble_eq_true rfl) dX5_setLoad_27 (fun H locs hP hD hS => ?_)
  have hP : va_P (dC, dI) vwCl [zX5 adB adA bs, zAL cO adA 3 lf, zX1 adL adc adp ads adr lmo lha lfo lma lst lou, zX2 adp pa1 pa2 pb pdt ldv pme pmb ado plt] H := hP
  have hD : va_D A [zX5 adB adA bs, zAL cO adA 3 lf, zX1 adL adc adp ads adr lmo lha lfo lma lst lou, zX2 adp pa1 pa2 pb pdt ldv pme pmb ado plt] := hD
  refine lv_iload hx hb dX5_setLoad_30 (lv_at hl 0 rfl) ?_
  exact hh_reti hQ (rfl) hx hb hr hlocks hP hK hD hS dX5_setLoad_32
def f_X5_setGains_j1_1 (lmo : Int32) : Int32 := if lmo = (3 : Int32) then (0 : Int32) else (1 : Int32)
theorem f_X5_setGains_j1_1_z (lmo : Int32) : narrow .boolean (.int (f_X5_setGains_j1_1 lmo)) = .int (f_X5_setGains_j1_1 lmo) := by
  unfold f_X5_setGains_j1_1
  repeat' split
  all_goals rfl
set_option maxHeartbeats 4000000 in
set_option maxRecDepth 100000 in
theorem c_X5_setGains (l : Launch) (dC : Nat → ClassId) (dI : Nat → Nat → Nat) (cI cJ cZ cO : ClassId) (adB adA : Nat) (bs : Int32) (lf : Nat → Option Nat) (adL adc adp ads adr : Nat) (lmo : Int32) (lha : Int64) (lfo lma lst : Int32) (lou : Int64) (kp ki kd klo khi kgu ksh khe : Int32) (ksp kig ksu kle klr : Int64) (kgo pa1 pa2 pb pdt pld : Int32) (pme pmb : Int64) (ado : Nat) (plt sn : Int32) (adsm adsp adsi adsd : Nat) (lp np ni nd : Int32) (sz : Nat) (hl0 : ¬ lp < (0 : Int32)) (hl3 : lp < (3 : Int32)) (hlf : lf lp.toNatClampNeg = some adL) (q4 : ¬ np < (-20000 : Int32)) (q5 : ¬ (20000 : Int32) < np) (q6 : ¬ ni < (-5000 : Int32)) (q7 : ¬ (5000 : Int32) < ni) (q8 : ¬ nd < (-50000 : Int32)) (q9 : ¬ (50000 : Int32) < nd) (q10 : ¬ (f_X5_setGains_j1_1 lmo) = (0 : Int32)) : Met l yX5_setGains (Cond.code yX5_setGains cX5_setGains 6 (some .int) :: wAll) ({ frames := 3, cells := 0, slots := 0, locals := 64 }) (va_Pc [.ref adB, .int lp, .int np, .int ni, .int nd] (gP (dC, dI) [zX5 adB adA bs, zAL cO adA 3 lf, zX1 adL adc adp ads adr lmo lha lfo lma lst lou, zX0 adc kp ki kd klo khi kgu ksh khe ksp kig ksu adp kle klr kgo, zX2 adp pa1 pa2 pb pdt pld pme pmb ado plt, zX4 ads sn adsm adsp adsi adsd] (tyG cI cJ cZ cO) sz gN)) (va_Qi (fun r (_ : Unit) => r = sn) (fun _ t => gB (dC, dI) (va_A [zX5 adB adA bs, zAL cO adA 3 lf, zX1 adL adc adp ads adr lmo lha lfo lma lst lou, zX0 adc kp ki kd klo khi kgu ksh khe ksp kig ksu adp kle klr kgo, zX2 adp pa1 pa2 pb pdt pld pme pmb ado plt, zX4 ads sn adsm adsp adsi adsd] sz) [zX5 adB adA bs, zAL cO adA 3 lf, zX1 adL adc adp ads adr lmo lha lfo lma lst lou, zX0 adc np ni nd klo khi kgu ksh khe ksp (f_X0_changeGains_kig kp kd ksp kig pme pmb np nd) ksu adp kle klr kgo, zX2 adp pa1 pa2 pb pdt pld pme pmb ado plt, zX4 ads (0 : Int32) adsm adsp adsi adsd] (tyG cI cJ cZ cO) t) (va_A [zX5 adB adA bs, zAL cO adA 3 lf, zX1 adL adc adp ads adr lmo lha lfo lma lst lou, zX0 adc kp ki kd klo khi kgu ksh khe ksp kig ksu adp kle klr kgo, zX2 adp pa1 pa2 pb pdt pld pme pmb ado plt, zX4 ads sn adsm adsp adsi adsd] sz)) 0 0 (va_A [zX5 adB adA bs, zAL cO adA 3 lf, zX1 adL adc adp ads adr lmo lha lfo lma lst lou, zX0 adc kp ki kd klo khi kgu ksh khe ksp kig ksu adp kle klr kgo, zX2 adp pa1 pa2 pb pdt pld pme pmb ado plt, zX4 ads sn adsm adsp adsi adsd] sz) := by
  refine Met.ofW (cc := cX5_setGains) (maxL := 6) (ret := (some .int)) (by decide) rfl ?_
  intro p e s m args below meth c s₁ B hml hv
  obtain ⟨rfl, hsz, hP, hK, hD0, hG⟩ := hv
  have hx := B.exec
  have hb := B.bytes
  have hr := B.returns
  have hts := ht_of B.pre
  have hown : s.vm.findClass RX5 = some m.cls := findClass_of_methodNamed B.named
  have hlocks := B.notSynchronized
  subst hsz
  have hD := hD0.self (sz := s.heap.size)
  generalize hAe : va_A [zX5 adB adA bs, zAL cO adA 3 lf, zX1 adL adc adp ads adr lmo lha lfo lma lst lou, zX0 adc kp ki kd klo khi kgu ksh khe ksp kig ksu adp kle klr kgo, zX2 adp pa1 pa2 pb pdt pld pme pmb ado plt, zX4 ads sn adsm adsp adsi adsd] s.heap.size = A at hD ⊢
  have hA : ∀ q : Nat, s.heap.size ≤ q → A q := fun q h => by rw [← hAe]; exact Or.inr h
  have hS : va_S A s.heap s.heap [] := va_S.rf
  have hP : va_P (dC, dI) vwCl [zX5 adB adA bs, zAL cO adA 3 lf, zX1 adL adc adp ads adr lmo lha lfo lma lst lou, zX0 adc kp ki kd klo khi kgu ksh khe ksp kig ksu adp kle klr kgo, zX2 adp pa1 pa2 pb pdt pld pme pmb ado plt, zX4 ads sn adsm adsp adsi adsd] s.heap := hP
  have hl := lv_entry ([.ref adB, .int lp, .int np, .int ni, .int nd]) (n := 6) (Nat.le_of_ble_eq_true rfl)
  rw [lg_entry_eq]
  generalize (lg_sl ([.ref adB, .int lp, .int np, .int ni, .int nd]) ++ List.replicate (6 - (lg_sl ([.ref adB, .int lp, .int np, .int ni, .int nd])).length) Slot.unset).toArray = ls at hl ⊢
  have hl : lv_has ls 6 [(0, .ref adB), (1, .int lp), (2, .int np), (3, .int ni), (4, .int nd)] := hl
  refine hh_name (fun Q hQ => ?_)
  refine lv_aload_n hx hb dX5_setGains_0 rfl (lv_at hl 0 rfl) ?_
  refine lv_iload_n hx hb dX5_setGains_1 rfl (lv_at hl 1 rfl) ?_
  refine hh_callq (w2 := [zX5 adB adA bs, zAL cO adA 3 lf, zX1 adL adc adp ads adr lmo lha lfo lma lst lou, zX0 adc kp ki kd klo khi kgu ksh khe ksp kig ksu adp kle klr kgo, zX2 adp pa1 pa2 pb pdt pld pme pmb ado plt, zX4 ads sn adsm adsp adsi adsd]) (va_runV (As := [.int lp]) (rest := []) ⟨hx, hb, hml, hown, hts⟩ (c_X5_loopAt l dC dI cI cJ cZ cO adB adA bs lf lp adL _ hl0 hl3 hlf) (cwV 1 hts (gd_V wd_2_38 wd_2_40 wd_p_0 wd_1_1 wd_2_41) rfl rfl rfl (by decide +kernel) ⟨Nat.le_of_ble_eq_true rfl, Nat.le_of_ble_eq_true rfl⟩) (hh_pV (ci := 5) (q := (RX5, TX5, 2)) (q0 := 0) rfl rfl gN_c (fun U _ hW => gN_w hW hG) hK hP hD [0, 1] rfl rfl) rfl rfl hl.1 rfl (lv_room (Nat.le_of_ble_eq_true rfl)) dX5_setGains_2 ⟨Nat.le_of_ble_eq_true rfl, Nat.le_of_ble_eq_true rfl⟩) hP hD hS hA [0, 1] [2, 3, 4, 5] [4, 5, 0, 1, 2, 3] rfl rfl rfl (by decide) rfl rfl (fun H locs hP hD hS => ?_)
  refine hh_setv (y := .ref adL) rfl ?_
  refine lv_astore (lv' := [(5, .ref adL), (0, .ref adB), (1, .int lp), (2, .int np), (3, .int ni), (4, .int nd)]) hx hb dX5_setGains_5 hl (by decide) rfl (fun ls hl => ?_)
  refine lv_iload_n hx hb dX5_setGains_7 rfl (lv_at hl 3 rfl) ?_
  refine lv_iload_n hx hb dX5_setGains_8 rfl (lv_at hl 4 rfl) ?_
  refine lv_iload hx hb dX5_setGains_9 (lv_at hl 5 rfl) ?_
  refine hh_callv (w2 := [zX5 adB adA bs, zAL cO adA 3 lf, zX1 adL adc adp ads adr lmo lha lfo lma lst lou, zX0 adc kp ki kd klo khi kgu ksh khe ksp kig ksu adp kle klr kgo, zX2 adp pa1 pa2 pb pdt pld pme pmb ado plt, zX4 ads sn adsm adsp adsi adsd]) (va_runS (As := [.int np, .int ni, .int nd]) (rest := []) ⟨hx, hb, hml, hown, hts⟩ (c_X5_requireGains l dC dI cI cJ cZ cO np ni nd _ q4 q5 q6 q7 q8 q9) (va_cwS 3 hts (gd_S wd_2_168 wd_2_169 wd_1_1 wd_2_170) rfl rfl rfl (by decide +kernel) ⟨Nat.le_of_ble_eq_true rfl, Nat.le_of_ble_eq_true rfl⟩) (hh_pS gN_c (fun U _ hW => gN_w hW hG) hK hP hD [] rfl rfl) rfl rfl hl.1 rfl (lv_room (Nat.le_of_ble_eq_true rfl)) dX5_setGains_11 ⟨Nat.le_of_ble_eq_true rfl, Nat.le_of_ble_eq_true rfl⟩) hP hD hS hA [] [0, 1, 2, 3, 4, 5] [0, 1, 2, 3, 4, 5] rfl rfl rfl (by decide) rfl rfl (fun H locs hP hD hS => ?_)
  refine lv_aload hx hb dX5_setGains_14 (lv_at hl 0 rfl) ?_
  refine va_get (D := (dC, dI)) (ci := 1) (v := .int lmo) (C := RX1) (T := TX1) (N := 10) hx hb hts inW_X1 hown hK hP 2 rfl rfl 4 (by decide) (hts _ wd_1_222) (fun _ h9 => h9) rfl dX5_setGains_16 ?_
  refine lv_iconst (v := 3) hx hb dX5_setGains_19 (by decide) ?_
  have J1 : ∀ (H : Heap) (locs : List Loc) (ls : Array Slot), va_P (dC, dI) vwCl [zX5 adB adA bs, zAL cO adA 3 lf, zX1 adL adc adp ads adr lmo lha lfo lma lst lou, zX0 adc kp ki kd klo khi kgu ksh khe ksp kig ksu adp kle klr kgo, zX2 adp pa1 pa2 pb pdt pld pme pmb ado plt, zX4 ads sn adsm adsp adsi adsd] H → va_D A [zX5 adB adA bs, zAL cO adA 3 lf, zX1 adL adc adp ads adr lmo lha lfo lma lst lou, zX0 adc kp ki kd klo khi kgu ksh khe ksp kig ksu adp kle klr kgo, zX2 adp pa1 pa2 pb pdt pld pme pmb ado plt, zX4 ads sn adsm adsp adsi adsd] → va_S A s.heap H locs → lv_has ls 6 [(5, .ref adL), (0, .ref adB), (1, .int lp), (2, .int np), (3, .int ni), (4, .int nd)] → W p l e (headSpec (Cond.code yX5_setGains cX5_setGains 6 (some .int) :: wAll) ({ frames := 3, cells := 0, slots := 0, locals := 64 })).room s m ([.ref adB, .int lp, .int np, .int ni, .int nd] : List Value).toArray below meth c H locs 0 0 Q (F0 m 28 ls [.int (f_X5_setGains_j1_1 lmo)]) := by
    intro H locs ls hP hD hS hl
    refine hh_callv (w2 := [zX5 adB adA bs, zAL cO adA 3 lf, zX1 adL adc adp ads adr lmo lha lfo lma lst lou, zX0 adc kp ki kd klo khi kgu ksh khe ksp kig ksu adp kle klr kgo, zX2 adp pa1 pa2 pb pdt pld pme pmb ado plt, zX4 ads sn adsm adsp adsi adsd]) (va_runS (As := [.int (f_X5_setGains_j1_1 lmo)]) (rest := []) ⟨hx, hb, hml, hown, hts⟩ (c_X5_requireState l dC dI cI cJ cZ cO (f_X5_setGains_j1_1 lmo) _ q10) (va_cwS 1 hts (gd_S wd_2_173 wd_2_174 wd_1_1 wd_2_175) rfl rfl rfl (by decide +kernel) ⟨Nat.le_of_ble_eq_true rfl, Nat.le_of_ble_eq_true rfl⟩) (hh_pS gN_c (fun U _ hW => gN_w hW hG) hK hP hD [] rfl rfl) rfl rfl hl.1 rfl (lv_room (Nat.le_of_ble_eq_true rfl)) dX5_setGains_28 ⟨Nat.le_of_ble_eq_true rfl, Nat.le_of_ble_eq_true rfl⟩) hP hD hS hA [] [0, 1, 2, 3, 4, 5] [0, 1, 2, 3, 4, 5] rfl rfl rfl (by decide) rfl rfl (fun H locs hP hD hS => ?_)
    refine lv_aload hx hb dX5_setGains_31 (lv_at hl 0 rfl) ?_
    refine va_get (D := (dC, dI)) (ci := 1) (v := .ref adc) (C := RX1) (T := TX1) (N := 10) hx hb hts inW_X1 hown hK hP 2 rfl rfl 0 (by decide) (hts _ wd_1_214) (fun _ h9 => h9) rfl dX5_setGains_33 ?_
    refine lv_iload_n hx hb dX5_setGains_36 rfl (lv_at hl 3 rfl) ?_
    refine lv_iload_n hx hb dX5_setGains_37 rfl (lv_at hl 4 rfl) ?_
    refine lv_iload hx hb dX5_setGains_38 (lv_at hl 5 rfl) ?_
    refine hh_callv (w2 := [zX5 adB adA bs, zAL cO adA 3 lf, zX1 adL adc adp ads adr lmo lha lfo lma lst lou, zX0 adc np ni nd klo khi kgu ksh khe ksp (f_X0_changeGains_kig kp kd ksp kig pme pmb np nd) ksu adp kle klr kgo, zX2 adp pa1 pa2 pb pdt pld pme pmb ado plt, zX4 ads sn adsm adsp adsi adsd]) (va_runV (As := [.int np, .int ni, .int nd]) (rest := []) ⟨hx, hb, hml, hown, hts⟩ (c_X0_changeGains l dC dI cI cJ cZ cO adc kp ki kd klo khi kgu ksh khe ksp kig ksu adp kle klr kgo pa1 pa2 pb pdt pld pme pmb ado plt np ni nd _) (cwV 3 hts (gd_V wd_2_192 wd_2_193 wd_2_194 wd_1_3 wd_2_195) rfl rfl rfl (by decide +kernel) ⟨Nat.le_of_ble_eq_true rfl, Nat.le_of_ble_eq_true rfl⟩) (hh_pV (ci := 0) (q := (RX0, TX0, 15)) (q0 := 3) rfl rfl gN_c (fun U _ hW => gN_w hW hG) hK hP hD [3, 4] rfl rfl) rfl rfl hl.1 rfl (lv_room (Nat.le_of_ble_eq_true rfl)) dX5_setGains_40 ⟨Nat.le_of_ble_eq_true rfl, Nat.le_of_ble_eq_true rfl⟩) hP hD hS hA [3, 4] [0, 1, 2, 5] [0, 1, 2, 4, 5, 3] rfl rfl rfl (by decide) rfl rfl (fun H locs hP hD hS => ?_)
    refine lv_aload hx hb dX5_setGains_43 (lv_at hl 0 rfl) ?_
    refine va_get (D := (dC, dI)) (ci := 1) (v := .ref ads) (C := RX1) (T := TX1) (N := 10) hx hb hts inW_X1 hown hK hP 2 rfl rfl 2 (by decide) (hts _ wd_1_218) (fun _ h9 => h9) rfl dX5_setGains_45 ?_
    refine hh_calli (w2 := [zX5 adB adA bs, zAL cO adA 3 lf, zX1 adL adc adp ads adr lmo lha lfo lma lst lou, zX0 adc np ni nd klo khi kgu ksh khe ksp (f_X0_changeGains_kig kp kd ksp kig pme pmb np nd) ksu adp kle klr kgo, zX2 adp pa1 pa2 pb pdt pld pme pmb ado plt, zX4 ads (0 : Int32) adsm adsp adsi adsd]) (va_runV (As := []) (rest := []) ⟨hx, hb, hml, hown, hts⟩ (c_X4_takeAway l dC dI cI cJ cZ cO ads sn adsm adsp adsi adsd _) (cwV 0 hts (gd_V wd_2_204 wd_2_205 wd_2_206 wd_1_5 wd_2_207) rfl rfl rfl (by decide +kernel) ⟨Nat.le_of_ble_eq_true rfl, Nat.le_of_ble_eq_true rfl⟩) (hh_pV (ci := 4) (q := (RX4, TX4, 5)) (q0 := 5) rfl rfl gN_c (fun U _ hW => gN_w hW hG) hK hP hD [5] rfl rfl) rfl rfl hl.1 rfl (lv_room (Nat.le_of_ble_eq_true rfl)) dX5_setGains_48 ⟨Nat.le_of_ble_eq_true rfl, Nat.le_of_ble_eq_true rfl⟩) hP hD hS hA [5] [0, 1, 2, 3, 4] [0, 1, 2, 3, 4, 5] rfl rfl rfl (by decide) rfl rfl (fun H locs hP hD hS => ?_)
    exact hh_reti hQ (rfl) hx hb hr hlocks hP hK hD hS dX5_setGains_51
  refine lv_icmp_eq (tgt := 27) hx hb dX5_setGains_20 (by decide) (fun h1 => ?_) (fun h1 => ?_)
  · skip
    refine lv_iconst (v := 0) hx hb dX5_setGains_27 (by decide) ?_
    have e2 : (f_X5_setGains_j1_1 lmo) = (0 : Int32) := if_pos h1
    refine hh_seti (y := (f_X5_setGains_j1_1 lmo)) (if_pos h1) ?_
    exact J1 _ _ _ (hP) (hD) hS (lv_sub hl [0, 1, 2, 3, 4, 5] rfl)
  · skip
    refine lv_iconst (v := 1) hx hb dX5_setGains_23 (by decide) ?_
    refine lv_goto (tgt := 28) hx hb dX5_setGains_24 (by decide) ?_
    have e3 : (f_X5_setGains_j1_1 lmo) = (1 : Int32) := if_neg h1
    refine hh_seti (y := (f_X5_setGains_j1_1 lmo)) (if_neg h1) ?_
    exact J1 _ _ _ (hP) (hD) hS (lv_sub hl [0, 1, 2, 3, 4, 5] rfl)
def f_X5_addPoint_j1_1 (sn : Int32) : Int32 := if (f_X4_isFull_j1_1 sn) = (0 : Int32) then (1 : Int32) else (0 : Int32)
theorem f_X5_addPoint_j1_1_z (sn : Int32) : narrow .boolean (.int (f_X5_addPoint_j1_1 sn)) = .int (f_X5_addPoint_j1_1 sn) := by
  unfold f_X5_addPoint_j1_1
  repeat' split
  all_goals rfl
set_option maxHeartbeats 4000000 in
set_option maxRecDepth 100000 in
theorem c_X5_addPoint (l : Launch) (dC : Nat → ClassId) (dI : Nat → Nat → Nat) (cI cJ cZ cO : ClassId) (adB adA : Nat) (bs : Int32) (lf : Nat → Option Nat) (adL adc adp ads adr : Nat) (lmo : Int32) (lha : Int64) (lfo lma lst : Int32) (lou : Int64) (sn : Int32) (adsm adsp adsi adsd : Nat) (gm gp gi gd : Nat → Int32) (lp mev np ni nd : Int32) (sz : Nat) (hl0 : ¬ lp < (0 : Int32)) (hl3 : lp < (3 : Int32)) (hlf : lf lp.toNatClampNeg = some adL) (q4 : ¬ mev < (-1000000 : Int32)) (q5 : ¬ (1000000 : Int32) < mev) (q6 : ¬ np < (-20000 : Int32)) (q7 : ¬ (20000 : Int32) < np) (q8 : ¬ ni < (-5000 : Int32)) (q9 : ¬ (5000 : Int32) < ni) (q10 : ¬ nd < (-50000 : Int32)) (q11 : ¬ (50000 : Int32) < nd) (q12 : ¬ (f_X4_endsBelow_j1_1 sn gm mev) = (0 : Int32)) (q13 : ¬ (f_X5_addPoint_j1_1 sn) = (0 : Int32)) : Met l yX5_addPoint (Cond.code yX5_addPoint cX5_addPoint 7 (some .int) :: wAll) ({ frames := 3, cells := 0, slots := 0, locals := 64 }) (va_Pc [.ref adB, .int lp, .int mev, .int np, .int ni, .int nd] (gP (dC, dI) [zX5 adB adA bs, zAL cO adA 3 lf, zX1 adL adc adp ads adr lmo lha lfo lma lst lou, zX4 ads sn adsm adsp adsi adsd, zAI cI adsm 5 gm, zAI cI adsp 5 gp, zAI cI adsi 5 gi, zAI cI adsd 5 gd] (tyG cI cJ cZ cO) sz gN)) (va_Qi (fun r (_ : Unit) => r = (f_X4_addLast_j1_1 sn)) (fun _ t => gB (dC, dI) (va_A [zX5 adB adA bs, zAL cO adA 3 lf, zX1 adL adc adp ads adr lmo lha lfo lma lst lou, zX4 ads sn adsm adsp adsi adsd, zAI cI adsm 5 gm, zAI cI adsp 5 gp, zAI cI adsi 5 gi, zAI cI adsd 5 gd] sz) [zX5 adB adA bs, zAL cO adA 3 lf, zX1 adL adc adp ads adr lmo lha lfo lma lst lou, zX4 ads (f_X4_addLast_j1_1 sn) adsm adsp adsi adsd, zAI cI adsm 5 (f_X4_addLast_j1_2 sn gm mev), zAI cI adsp 5 (f_X4_addLast_j1_3 sn gp np), zAI cI adsi 5 (f_X4_addLast_j1_4 sn gi ni), zAI cI adsd 5 (f_X4_addLast_j1_5 sn gd nd)] (tyG cI cJ cZ cO) t) (va_A [zX5 adB adA bs, zAL cO adA 3 lf, zX1 adL adc adp ads adr lmo lha lfo lma lst lou, zX4 ads sn adsm adsp adsi adsd, zAI cI adsm 5 gm, zAI cI adsp 5 gp, zAI cI adsi 5 gi, zAI cI adsd 5 gd] sz)) 0 0 (va_A [zX5 adB adA bs, zAL cO adA 3 lf, zX1 adL adc adp ads adr lmo lha lfo lma lst lou, zX4 ads sn adsm adsp adsi adsd, zAI cI adsm 5 gm, zAI cI adsp 5 gp, zAI cI adsi 5 gi, zAI cI adsd 5 gd] sz) := by
  refine Met.ofW (cc := cX5_addPoint) (maxL := 7) (ret := (some .int)) (by decide) rfl ?_
  intro p e s m args below meth c s₁ B hml hv
  obtain ⟨rfl, hsz, hP, hK, hD0, hG⟩ := hv
  have hx := B.exec
  have hb := B.bytes
  have hr := B.returns
  have hts := ht_of B.pre
  have hown : s.vm.findClass RX5 = some m.cls := findClass_of_methodNamed B.named
  have hlocks := B.notSynchronized
  subst hsz
  have hD := hD0.self (sz := s.heap.size)
  generalize hAe : va_A [zX5 adB adA bs, zAL cO adA 3 lf, zX1 adL adc adp ads adr lmo lha lfo lma lst lou, zX4 ads sn adsm adsp adsi adsd, zAI cI adsm 5 gm, zAI cI adsp 5 gp, zAI cI adsi 5 gi, zAI cI adsd 5 gd] s.heap.size = A at hD ⊢
  have hA : ∀ q : Nat, s.heap.size ≤ q → A q := fun q h => by rw [← hAe]; exact Or.inr h
  have hS : va_S A s.heap s.heap [] := va_S.rf
  have hP : va_P (dC, dI) vwCl [zX5 adB adA bs, zAL cO adA 3 lf, zX1 adL adc adp ads adr lmo lha lfo lma lst lou, zX4 ads sn adsm adsp adsi adsd, zAI cI adsm 5 gm, zAI cI adsp 5 gp, zAI cI adsi 5 gi, zAI cI adsd 5 gd] s.heap := hP
  have hl := lv_entry ([.ref adB, .int lp, .int mev, .int np, .int ni, .int nd]) (n := 7) (Nat.le_of_ble_eq_true rfl)
  rw [lg_entry_eq]
  generalize (lg_sl ([.ref adB, .int lp, .int mev, .int np, .int ni, .int nd]) ++ List.replicate (7 - (lg_sl ([.ref adB, .int lp, .int mev, .int np, .int ni, .int nd])).length) Slot.unset).toArray = ls at hl ⊢
  have hl : lv_has ls 7 [(0, .ref adB), (1, .int lp), (2, .int mev), (3, .int np), (4, .int ni), (5, .int nd)] := hl
  refine hh_name (fun Q hQ => ?_)
  refine lv_aload_n hx hb dX5_addPoint_0 rfl (lv_at hl 0 rfl) ?_
  refine lv_iload_n hx hb dX5_addPoint_1 rfl (lv_at hl 1 rfl) ?_
  refine hh_callq (w2 := [zX5 adB adA bs, zAL cO adA 3 lf, zX1 adL adc adp ads adr lmo lha lfo lma lst lou, zX4 ads sn adsm adsp adsi adsd, zAI cI adsm 5 gm, zAI cI adsp 5 gp, zAI cI adsi 5 gi, zAI cI adsd 5 gd]) (va_runV (As := [.int lp]) (rest := []) ⟨hx, hb, hml, hown, hts⟩ (c_X5_loopAt l dC dI cI cJ cZ cO adB adA bs lf lp adL _ hl0 hl3 hlf) (cwV 1 hts (gd_V wd_2_38 wd_2_40 wd_p_0 wd_1_1 wd_2_41) rfl rfl rfl (by decide +kernel) ⟨Nat.le_of_ble_eq_true rfl, Nat.le_of_ble_eq_true rfl⟩) (hh_pV (ci := 5) (q := (RX5, TX5, 2)) (q0 := 0) rfl rfl gN_c (fun U _ hW => gN_w hW hG) hK hP hD [0, 1] rfl rfl) rfl rfl hl.1 rfl (lv_room (Nat.le_of_ble_eq_true rfl)) dX5_addPoint_2 ⟨Nat.le_of_ble_eq_true rfl, Nat.le_of_ble_eq_true rfl⟩) hP hD hS hA [0, 1] [2, 3, 4, 5, 6, 7] [6, 7, 0, 1, 2, 3, 4, 5] rfl rfl rfl (by decide) rfl rfl (fun H locs hP hD hS => ?_)
  refine hh_setv (y := .ref adL) rfl ?_
  refine va_get (D := (dC, dI)) (ci := 1) (v := .ref ads) (C := RX1) (T := TX1) (N := 10) hx hb hts inW_X1 hown hK hP 2 rfl rfl 2 (by decide) (hts _ wd_1_218) (fun _ h9 => h9) rfl dX5_addPoint_5 ?_
  refine lv_astore (lv' := [(6, .ref ads), (0, .ref adB), (1, .int lp), (2, .int mev), (3, .int np), (4, .int ni), (5, .int nd)]) hx hb dX5_addPoint_8 hl (by decide) rfl (fun ls hl => ?_)
  refine lv_iload_n hx hb dX5_addPoint_10 rfl (lv_at hl 3 rfl) ?_
  refine lv_ldc (v := -1000000) hx hb hown (hts _ wd_2_213) dX5_addPoint_11 ?_
  refine lv_ldc (v := 1000000) hx hb hown (hts _ wd_2_214) dX5_addPoint_13 ?_
  refine hh_callv (w2 := [zX5 adB adA bs, zAL cO adA 3 lf, zX1 adL adc adp ads adr lmo lha lfo lma lst lou, zX4 ads sn adsm adsp adsi adsd, zAI cI adsm 5 gm, zAI cI adsp 5 gp, zAI cI adsi 5 gi, zAI cI adsd 5 gd]) (va_runS (As := [.int mev, .int (-1000000 : Int32), .int (1000000 : Int32)]) (rest := []) ⟨hx, hb, hml, hown, hts⟩ (c_X5_requireWithin l dC dI cI cJ cZ cO mev (-1000000 : Int32) (1000000 : Int32) _ q4 q5) (va_cwS 3 hts (gd_S wd_2_110 wd_2_111 wd_1_1 wd_2_112) rfl rfl rfl (by decide +kernel) ⟨Nat.le_of_ble_eq_true rfl, Nat.le_of_ble_eq_true rfl⟩) (hh_pS gN_c (fun U _ hW => gN_w hW hG) hK hP hD [] rfl rfl) rfl rfl hl.1 rfl (lv_room (Nat.le_of_ble_eq_true rfl)) dX5_addPoint_15 ⟨Nat.le_of_ble_eq_true rfl, Nat.le_of_ble_eq_true rfl⟩) hP hD hS hA [] [0, 1, 2, 3, 4, 5, 6, 7] [0, 1, 2, 3, 4, 5, 6, 7] rfl rfl rfl (by decide) rfl rfl (fun H locs hP hD hS => ?_)
  refine lv_iload_n hx hb dX5_addPoint_18 rfl (lv_at hl 4 rfl) ?_
  refine lv_iload hx hb dX5_addPoint_19 (lv_at hl 5 rfl) ?_
  refine lv_iload hx hb dX5_addPoint_21 (lv_at hl 6 rfl) ?_
  refine hh_callv (w2 := [zX5 adB adA bs, zAL cO adA 3 lf, zX1 adL adc adp ads adr lmo lha lfo lma lst lou, zX4 ads sn adsm adsp adsi adsd, zAI cI adsm 5 gm, zAI cI adsp 5 gp, zAI cI adsi 5 gi, zAI cI adsd 5 gd]) (va_runS (As := [.int np, .int ni, .int nd]) (rest := []) ⟨hx, hb, hml, hown, hts⟩ (c_X5_requireGains l dC dI cI cJ cZ cO np ni nd _ q6 q7 q8 q9 q10 q11) (va_cwS 3 hts (gd_S wd_2_168 wd_2_169 wd_1_1 wd_2_170) rfl rfl rfl (by decide +kernel) ⟨Nat.le_of_ble_eq_true rfl, Nat.le_of_ble_eq_true rfl⟩) (hh_pS gN_c (fun U _ hW => gN_w hW hG) hK hP hD [] rfl rfl) rfl rfl hl.1 rfl (lv_room (Nat.le_of_ble_eq_true rfl)) dX5_addPoint_23 ⟨Nat.le_of_ble_eq_true rfl, Nat.le_of_ble_eq_true rfl⟩) hP hD hS hA [] [0, 1, 2, 3, 4, 5, 6, 7] [0, 1, 2, 3, 4, 5, 6, 7] rfl rfl rfl (by decide) rfl rfl (fun H locs hP hD hS => ?_)
  refine lv_aload hx hb dX5_addPoint_26 (lv_at hl 0 rfl) ?_
  refine lv_iload_n hx hb dX5_addPoint_28 rfl (lv_at hl 3 rfl) ?_
  refine hh_calli (w2 := [zX5 adB adA bs, zAL cO adA 3 lf, zX1 adL adc adp ads adr lmo lha lfo lma lst lou, zX4 ads sn adsm adsp adsi adsd, zAI cI adsm 5 gm, zAI cI adsp 5 gp, zAI cI adsi 5 gi, zAI cI adsd 5 gd]) (va_runV (As := [.int mev]) (rest := []) ⟨hx, hb, hml, hown, hts⟩ (c_X4_endsBelow l dC dI cI cJ cZ cO ads sn adsm adsp adsi adsd gm mev _) (cwV 1 hts (gd_V wd_2_215 wd_2_216 wd_2_217 wd_1_5 wd_2_218) rfl rfl rfl (by decide +kernel) ⟨Nat.le_of_ble_eq_true rfl, Nat.le_of_ble_eq_true rfl⟩) (hh_pV (ci := 4) (q := (RX4, TX4, 5)) (q0 := 3) rfl rfl gN_c (fun U _ hW => gN_w hW hG) hK hP hD [3, 4] rfl rfl) rfl rfl hl.1 rfl (lv_room (Nat.le_of_ble_eq_true rfl)) dX5_addPoint_29 ⟨Nat.le_of_ble_eq_true rfl, Nat.le_of_ble_eq_true rfl⟩) hP hD hS hA [3, 4] [0, 1, 2, 5, 6, 7] [0, 1, 2, 6, 7, 3, 4, 5] rfl rfl rfl (by decide) rfl rfl (fun H locs hP hD hS => ?_)
  refine hh_callv (w2 := [zX5 adB adA bs, zAL cO adA 3 lf, zX1 adL adc adp ads adr lmo lha lfo lma lst lou, zX4 ads sn adsm adsp adsi adsd, zAI cI adsm 5 gm, zAI cI adsp 5 gp, zAI cI adsi 5 gi, zAI cI adsd 5 gd]) (va_runS (As := [.int (f_X4_endsBelow_j1_1 sn gm mev)]) (rest := []) ⟨hx, hb, hml, hown, hts⟩ (c_X5_requireArgument l dC dI cI cJ cZ cO (f_X4_endsBelow_j1_1 sn gm mev) _ q12) (va_cwS 1 hts (gd_S wd_2_113 wd_2_114 wd_1_1 wd_2_115) rfl rfl rfl (by decide +kernel) ⟨Nat.le_of_ble_eq_true rfl, Nat.le_of_ble_eq_true rfl⟩) (hh_pS gN_c (fun U _ hW => gN_w hW hG) hK hP hD [] rfl rfl) rfl rfl hl.1 rfl (lv_room (Nat.le_of_ble_eq_true rfl)) dX5_addPoint_32 ⟨Nat.le_of_ble_eq_true rfl, Nat.le_of_ble_eq_true rfl⟩) hP hD hS hA [] [0, 1, 2, 3, 4, 5, 6, 7] [0, 1, 2, 3, 4, 5, 6, 7] rfl rfl rfl (by decide) rfl rfl (fun H locs hP hD hS => ?_)
  refine lv_aload hx hb dX5_addPoint_35 (lv_at hl 0 rfl) ?_
  refine hh_calli (w2 := [zX5 adB adA bs, zAL cO adA 3 lf, zX1 adL adc adp ads adr lmo lha lfo lma lst lou, zX4 ads sn adsm adsp adsi adsd, zAI cI adsm 5 gm, zAI cI adsp 5 gp, zAI cI adsi 5 gi, zAI cI adsd 5 gd]) (va_runV (As := []) (rest := []) ⟨hx, hb, hml, hown, hts⟩ (c_X4_isFull l dC dI cI cJ cZ cO ads sn adsm adsp adsi adsd _) (cwV 0 hts (gd_V wd_2_219 wd_2_220 wd_2_221 wd_1_5 wd_2_222) rfl rfl rfl (by decide +kernel) ⟨Nat.le_of_ble_eq_true rfl, Nat.le_of_ble_eq_true rfl⟩) (hh_pV (ci := 4) (q := (RX4, TX4, 5)) (q0 := 3) rfl rfl gN_c (fun U _ hW => gN_w hW hG) hK hP hD [3] rfl rfl) rfl rfl hl.1 rfl (lv_room (Nat.le_of_ble_eq_true rfl)) dX5_addPoint_37 ⟨Nat.le_of_ble_eq_true rfl, Nat.le_of_ble_eq_true rfl⟩) hP hD hS hA [3] [0, 1, 2, 4, 5, 6, 7] [0, 1, 2, 7, 3, 4, 5, 6] rfl rfl rfl (by decide) rfl rfl (fun H locs hP hD hS => ?_)
  have J1 : ∀ (H : Heap) (locs : List Loc) (ls : Array Slot), va_P (dC, dI) vwCl [zX5 adB adA bs, zAL cO adA 3 lf, zX1 adL adc adp ads adr lmo lha lfo lma lst lou, zX4 ads sn adsm adsp adsi adsd, zAI cI adsm 5 gm, zAI cI adsp 5 gp, zAI cI adsi 5 gi, zAI cI adsd 5 gd] H → va_D A [zX5 adB adA bs, zAL cO adA 3 lf, zX1 adL adc adp ads adr lmo lha lfo lma lst lou, zX4 ads sn adsm adsp adsi adsd, zAI cI adsm 5 gm, zAI cI adsp 5 gp, zAI cI adsi 5 gi, zAI cI adsd 5 gd] → va_S A s.heap H locs → lv_has ls 7 [(6, .ref ads), (0, .ref adB), (1, .int lp), (2, .int mev), (3, .int np), (4, .int ni), (5, .int nd)] → W p l e (headSpec (Cond.code yX5_addPoint cX5_addPoint 7 (some .int) :: wAll) ({ frames := 3, cells := 0, slots := 0, locals := 64 })).room s m ([.ref adB, .int lp, .int mev, .int np, .int ni, .int nd] : List Value).toArray below meth c H locs 0 0 Q (F0 m 48 ls [.int (f_X5_addPoint_j1_1 sn)]) := by
    intro H locs ls hP hD hS hl
    refine hh_callv (w2 := [zX5 adB adA bs, zAL cO adA 3 lf, zX1 adL adc adp ads adr lmo lha lfo lma lst lou, zX4 ads sn adsm adsp adsi adsd, zAI cI adsm 5 gm, zAI cI adsp 5 gp, zAI cI adsi 5 gi, zAI cI adsd 5 gd]) (va_runS (As := [.int (f_X5_addPoint_j1_1 sn)]) (rest := []) ⟨hx, hb, hml, hown, hts⟩ (c_X5_requireState l dC dI cI cJ cZ cO (f_X5_addPoint_j1_1 sn) _ q13) (va_cwS 1 hts (gd_S wd_2_173 wd_2_174 wd_1_1 wd_2_175) rfl rfl rfl (by decide +kernel) ⟨Nat.le_of_ble_eq_true rfl, Nat.le_of_ble_eq_true rfl⟩) (hh_pS gN_c (fun U _ hW => gN_w hW hG) hK hP hD [] rfl rfl) rfl rfl hl.1 rfl (lv_room (Nat.le_of_ble_eq_true rfl)) dX5_addPoint_48 ⟨Nat.le_of_ble_eq_true rfl, Nat.le_of_ble_eq_true rfl⟩) hP hD hS hA [] [0, 1, 2, 3, 4, 5, 6, 7] [0, 1, 2, 3, 4, 5, 6, 7] rfl rfl rfl (by decide) rfl rfl (fun H locs hP hD hS => ?_)
    refine lv_aload hx hb dX5_addPoint_51 (lv_at hl 0 rfl) ?_
    refine lv_iload_n hx hb dX5_addPoint_53 rfl (lv_at hl 3 rfl) ?_
    refine lv_iload_n hx hb dX5_addPoint_54 rfl (lv_at hl 4 rfl) ?_
    refine lv_iload hx hb dX5_addPoint_55 (lv_at hl 5 rfl) ?_
    refine lv_iload hx hb dX5_addPoint_57 (lv_at hl 6 rfl) ?_
    refine hh_calli (w2 := [zX5 adB adA bs, zAL cO adA 3 lf, zX1 adL adc adp ads adr lmo lha lfo lma lst lou, zX4 ads (f_X4_addLast_j1_1 sn) adsm adsp adsi adsd, zAI cI adsm 5 (f_X4_addLast_j1_2 sn gm mev), zAI cI adsp 5 (f_X4_addLast_j1_3 sn gp np), zAI cI adsi 5 (f_X4_addLast_j1_4 sn gi ni), zAI cI adsd 5 (f_X4_addLast_j1_5 sn gd nd)]) (va_runV (As := [.int mev, .int np, .int ni, .int nd]) (rest := []) ⟨hx, hb, hml, hown, hts⟩ (c_X4_addLast l dC dI cI cJ cZ cO ads sn adsm adsp adsi adsd gm gp gi gd mev np ni nd _) (cwV 4 hts (gd_V wd_2_223 wd_2_224 wd_2_225 wd_1_5 wd_2_226) rfl rfl rfl (by decide +kernel) ⟨Nat.le_of_ble_eq_true rfl, Nat.le_of_ble_eq_true rfl⟩) (hh_pV (ci := 4) (q := (RX4, TX4, 5)) (q0 := 3) rfl rfl gN_c (fun U _ hW => gN_w hW hG) hK hP hD [3, 4, 5, 6, 7] rfl rfl) rfl rfl hl.1 rfl (lv_room (Nat.le_of_ble_eq_true rfl)) dX5_addPoint_59 ⟨Nat.le_of_ble_eq_true rfl, Nat.le_of_ble_eq_true rfl⟩) hP hD hS hA [3, 4, 5, 6, 7] [0, 1, 2] [0, 1, 2, 3, 4, 5, 6, 7] rfl rfl rfl (by decide) rfl rfl (fun H locs hP hD hS => ?_)
    exact hh_reti hQ (rfl) hx hb hr hlocks hP hK hD hS dX5_addPoint_62
  refine lv_if_ne (tgt := 47) hx hb dX5_addPoint_40 (by decide) (fun h1 => ?_) (fun h1 => ?_)
  · skip
    refine lv_iconst (v := 0) hx hb dX5_addPoint_47 (by decide) ?_
    have e2 : (f_X5_addPoint_j1_1 sn) = (0 : Int32) := if_neg h1
    refine hh_seti (y := (f_X5_addPoint_j1_1 sn)) (if_neg h1) ?_
    exact J1 _ _ _ (hP) (hD) hS (lv_sub hl [0, 1, 2, 3, 4, 5, 6] rfl)
  · skip
    refine lv_iconst (v := 1) hx hb dX5_addPoint_43 (by decide) ?_
    refine lv_goto (tgt := 48) hx hb dX5_addPoint_44 (by decide) ?_
    have e3 : (f_X5_addPoint_j1_1 sn) = (1 : Int32) := if_pos h1
    refine hh_seti (y := (f_X5_addPoint_j1_1 sn)) (if_pos h1) ?_
    exact J1 _ _ _ (hP) (hD) hS (lv_sub hl [0, 1, 2, 3, 4, 5, 6] rfl)
set_option maxHeartbeats 4000000 in
set_option maxRecDepth 100000 in
theorem c_X5_setLimits (l : Launch) (dC : Nat → ClassId) (dI : Nat → Nat → Nat) (cI cJ cZ cO : ClassId) (adB adA : Nat) (bs : Int32) (lf : Nat → Option Nat) (adL adc adp ads adr : Nat) (lmo : Int32) (lha : Int64) (lfo lma lst : Int32) (lou : Int64) (kp ki kd klo khi kgu ksh khe : Int32) (ksp kig ksu kle klr : Int64) (kgo lp lov hiv : Int32) (sz : Nat) (hl0 : ¬ lp < (0 : Int32)) (hl3 : lp < (3 : Int32)) (hlf : lf lp.toNatClampNeg = some adL) (q4 : ¬ lov < (-1000000 : Int32)) (q5 : ¬ (1000000 : Int32) < lov) (q6 : ¬ hiv < lov) (q7 : ¬ (1000000 : Int32) < hiv) : Met l yX5_setLimits (Cond.code yX5_setLimits cX5_setLimits 5 none :: wAll) ({ frames := 2, cells := 0, slots := 0, locals := 42 }) (va_Pc [.ref adB, .int lp, .int lov, .int hiv] (gP (dC, dI) [zX5 adB adA bs, zAL cO adA 3 lf, zX1 adL adc adp ads adr lmo lha lfo lma lst lou, zX0 adc kp ki kd klo khi kgu ksh khe ksp kig ksu adp kle klr kgo] (tyG cI cJ cZ cO) sz gN)) (va_Qv (fun (_ : Unit) => True) (fun _ t => gB (dC, dI) (va_A [zX5 adB adA bs, zAL cO adA 3 lf, zX1 adL adc adp ads adr lmo lha lfo lma lst lou, zX0 adc kp ki kd klo khi kgu ksh khe ksp kig ksu adp kle klr kgo] sz) [zX5 adB adA bs, zAL cO adA 3 lf, zX1 adL adc adp ads adr lmo lha lfo lma lst lou, zX0 adc kp ki kd lov hiv kgu ksh khe ksp kig ksu adp kle klr kgo] (tyG cI cJ cZ cO) t) (va_A [zX5 adB adA bs, zAL cO adA 3 lf, zX1 adL adc adp ads adr lmo lha lfo lma lst lou, zX0 adc kp ki kd klo khi kgu ksh khe ksp kig ksu adp kle klr kgo] sz)) 0 0 (va_A [zX5 adB adA bs, zAL cO adA 3 lf, zX1 adL adc adp ads adr lmo lha lfo lma lst lou, zX0 adc kp ki kd klo khi kgu ksh khe ksp kig ksu adp kle klr kgo] sz) := by
  refine Met.ofW (cc := cX5_setLimits) (maxL := 5) (ret := none) (by decide) rfl ?_
  intro p e s m args below meth c s₁ B hml hv
  obtain ⟨rfl, hsz, hP, hK, hD0, hG⟩ := hv
  have hx := B.exec
  have hb := B.bytes
  have hr := B.returns
  have hts := ht_of B.pre
  have hown : s.vm.findClass RX5 = some m.cls := findClass_of_methodNamed B.named
  have hlocks := B.notSynchronized
  subst hsz
  have hD := hD0.self (sz := s.heap.size)
  generalize hAe : va_A [zX5 adB adA bs, zAL cO adA 3 lf, zX1 adL adc adp ads adr lmo lha lfo lma lst lou, zX0 adc kp ki kd klo khi kgu ksh khe ksp kig ksu adp kle klr kgo] s.heap.size = A at hD ⊢
  have hA : ∀ q : Nat, s.heap.size ≤ q → A q := fun q h => by rw [← hAe]; exact Or.inr h
  have hS : va_S A s.heap s.heap [] := va_S.rf
  have hP : va_P (dC, dI) vwCl [zX5 adB adA bs, zAL cO adA 3 lf, zX1 adL adc adp ads adr lmo lha lfo lma lst lou, zX0 adc kp ki kd klo khi kgu ksh khe ksp kig ksu adp kle klr kgo] s.heap := hP
  have hl := lv_entry ([.ref adB, .int lp, .int lov, .int hiv]) (n := 5) (Nat.le_of_ble_eq_true rfl)
  rw [lg_entry_eq]
  generalize (lg_sl ([.ref adB, .int lp, .int lov, .int hiv]) ++ List.replicate (5 - (lg_sl ([.ref adB, .int lp, .int lov, .int hiv])).length) Slot.unset).toArray = ls at hl ⊢
  have hl : lv_has ls 5 [(0, .ref adB), (1, .int lp), (2, .int lov), (3, .int hiv)] := hl
  refine hh_name (fun Q hQ => ?_)
  refine lv_aload_n hx hb dX5_setLimits_0 rfl (lv_at hl 0 rfl) ?_
  refine lv_iload_n hx hb dX5_setLimits_1 rfl (lv_at hl 1 rfl) ?_
  refine hh_callq (w2 := [zX5 adB adA bs, zAL cO adA 3 lf, zX1 adL adc adp ads adr lmo lha lfo lma lst lou, zX0 adc kp ki kd klo khi kgu ksh khe ksp kig ksu adp kle klr kgo]) (va_runV (As := [.int lp]) (rest := []) ⟨hx, hb, hml, hown, hts⟩ (c_X5_loopAt l dC dI cI cJ cZ cO adB adA bs lf lp adL _ hl0 hl3 hlf) (cwV 1 hts (gd_V wd_2_38 wd_2_40 wd_p_0 wd_1_1 wd_2_41) rfl rfl rfl (by decide +kernel) ⟨Nat.le_of_ble_eq_true rfl, Nat.le_of_ble_eq_true rfl⟩) (hh_pV (ci := 5) (q := (RX5, TX5, 2)) (q0 := 0) rfl rfl gN_c (fun U _ hW => gN_w hW hG) hK hP hD [0, 1] rfl rfl) rfl rfl hl.1 rfl (lv_room (Nat.le_of_ble_eq_true rfl)) dX5_setLimits_2 ⟨Nat.le_of_ble_eq_true rfl, Nat.le_of_ble_eq_true rfl⟩) hP hD hS hA [0, 1] [2, 3] [2, 3, 0, 1] rfl rfl rfl (by decide) rfl rfl (fun H locs hP hD hS => ?_)
  refine hh_setv (y := .ref adL) rfl ?_
  refine va_get (D := (dC, dI)) (ci := 1) (v := .ref adc) (C := RX1) (T := TX1) (N := 10) hx hb hts inW_X1 hown hK hP 2 rfl rfl 0 (by decide) (hts _ wd_1_214) (fun _ h9 => h9) rfl dX5_setLimits_5 ?_
  refine lv_astore (lv' := [(4, .ref adc), (0, .ref adB), (1, .int lp), (2, .int lov), (3, .int hiv)]) hx hb dX5_setLimits_8 hl (by decide) rfl (fun ls hl => ?_)
  refine lv_iload_n hx hb dX5_setLimits_10 rfl (lv_at hl 3 rfl) ?_
  refine lv_ldc (v := -1000000) hx hb hown (hts _ wd_2_213) dX5_setLimits_11 ?_
  refine lv_ldc (v := 1000000) hx hb hown (hts _ wd_2_214) dX5_setLimits_13 ?_
  refine hh_callv (w2 := [zX5 adB adA bs, zAL cO adA 3 lf, zX1 adL adc adp ads adr lmo lha lfo lma lst lou, zX0 adc kp ki kd klo khi kgu ksh khe ksp kig ksu adp kle klr kgo]) (va_runS (As := [.int lov, .int (-1000000 : Int32), .int (1000000 : Int32)]) (rest := []) ⟨hx, hb, hml, hown, hts⟩ (c_X5_requireWithin l dC dI cI cJ cZ cO lov (-1000000 : Int32) (1000000 : Int32) _ q4 q5) (va_cwS 3 hts (gd_S wd_2_110 wd_2_111 wd_1_1 wd_2_112) rfl rfl rfl (by decide +kernel) ⟨Nat.le_of_ble_eq_true rfl, Nat.le_of_ble_eq_true rfl⟩) (hh_pS gN_c (fun U _ hW => gN_w hW hG) hK hP hD [] rfl rfl) rfl rfl hl.1 rfl (lv_room (Nat.le_of_ble_eq_true rfl)) dX5_setLimits_15 ⟨Nat.le_of_ble_eq_true rfl, Nat.le_of_ble_eq_true rfl⟩) hP hD hS hA [] [0, 1, 2, 3] [0, 1, 2, 3] rfl rfl rfl (by decide) rfl rfl (fun H locs hP hD hS => ?_)
  refine lv_iload_n hx hb dX5_setLimits_18 rfl (lv_at hl 4 rfl) ?_
  refine lv_iload_n hx hb dX5_setLimits_19 rfl (lv_at hl 3 rfl) ?_
  refine lv_ldc (v := 1000000) hx hb hown (hts _ wd_2_214) dX5_setLimits_20 ?_
  refine hh_callv (w2 := [zX5 adB adA bs, zAL cO adA 3 lf, zX1 adL adc adp ads adr lmo lha lfo lma lst lou, zX0 adc kp ki kd klo khi kgu ksh khe ksp kig ksu adp kle klr kgo]) (va_runS (As := [.int hiv, .int lov, .int (1000000 : Int32)]) (rest := []) ⟨hx, hb, hml, hown, hts⟩ (c_X5_requireWithin l dC dI cI cJ cZ cO hiv lov (1000000 : Int32) _ q6 q7) (va_cwS 3 hts (gd_S wd_2_110 wd_2_111 wd_1_1 wd_2_112) rfl rfl rfl (by decide +kernel) ⟨Nat.le_of_ble_eq_true rfl, Nat.le_of_ble_eq_true rfl⟩) (hh_pS gN_c (fun U _ hW => gN_w hW hG) hK hP hD [] rfl rfl) rfl rfl hl.1 rfl (lv_room (Nat.le_of_ble_eq_true rfl)) dX5_setLimits_22 ⟨Nat.le_of_ble_eq_true rfl, Nat.le_of_ble_eq_true rfl⟩) hP hD hS hA [] [0, 1, 2, 3] [0, 1, 2, 3] rfl rfl rfl (by decide) rfl rfl (fun H locs hP hD hS => ?_)
  refine lv_aload hx hb dX5_setLimits_25 (lv_at hl 0 rfl) ?_
  refine lv_iload_n hx hb dX5_setLimits_27 rfl (lv_at hl 3 rfl) ?_
  refine va_put (D := (dC, dI)) (ci := 0) (v := .int lov) (ty := .int) (C := RX0) (T := TX0) (N := 15) hx hb hts inW_X0 tyX0 tyX0_ok nmX0 hown hK hP hD hS 3 rfl rfl 3 (by decide) (hts _ wd_1_90) (fun _ h9 => h9) rfl (tyX0_ok 3 (by decide)) rfl rfl (Nat.le_of_ble_eq_true rfl) dX5_setLimits_28 (fun H locs hP hD hS => ?_)
  have hP : va_P (dC, dI) vwCl [zX5 adB adA bs, zAL cO adA 3 lf, zX1 adL adc adp ads adr lmo lha lfo lma lst lou, zX0 adc kp ki kd lov khi kgu ksh khe ksp kig ksu adp kle klr kgo] H := hP
  have hD : va_D A [zX5 adB adA bs, zAL cO adA 3 lf, zX1 adL adc adp ads adr lmo lha lfo lma lst lou, zX0 adc kp ki kd lov khi kgu ksh khe ksp kig ksu adp kle klr kgo] := hD
  refine lv_aload hx hb dX5_setLimits_31 (lv_at hl 0 rfl) ?_
  refine lv_iload_n hx hb dX5_setLimits_33 rfl (lv_at hl 4 rfl) ?_
  refine va_put (D := (dC, dI)) (ci := 0) (v := .int hiv) (ty := .int) (C := RX0) (T := TX0) (N := 15) hx hb hts inW_X0 tyX0 tyX0_ok nmX0 hown hK hP hD hS 3 rfl rfl 4 (by decide) (hts _ wd_1_92) (fun _ h9 => h9) rfl (tyX0_ok 4 (by decide)) rfl rfl (Nat.le_of_ble_eq_true rfl) dX5_setLimits_34 (fun H locs hP hD hS => ?_)
  have hP : va_P (dC, dI) vwCl [zX5 adB adA bs, zAL cO adA 3 lf, zX1 adL adc adp ads adr lmo lha lfo lma lst lou, zX0 adc kp ki kd lov hiv kgu ksh khe ksp kig ksu adp kle klr kgo] H := hP
  have hD : va_D A [zX5 adB adA bs, zAL cO adA 3 lf, zX1 adL adc adp ads adr lmo lha lfo lma lst lou, zX0 adc kp ki kd lov hiv kgu ksh khe ksp kig ksu adp kle klr kgo] := hD
  exact hh_retv hQ hx hb hr hlocks hP hK hD hS dX5_setLimits_37
set_option maxHeartbeats 4000000 in
set_option maxRecDepth 100000 in
theorem c_X5_setGuard (l : Launch) (dC : Nat → ClassId) (dI : Nat → Nat → Nat) (cI cJ cZ cO : ClassId) (adB adA : Nat) (bs : Int32) (lf : Nat → Option Nat) (adL adc adp ads adr : Nat) (lmo : Int32) (lha : Int64) (lfo lma lst : Int32) (lou : Int64) (kp ki kd klo khi kgu ksh khe : Int32) (ksp kig ksu kle klr : Int64) (kgo lp guv shv : Int32) (sz : Nat) (hl0 : ¬ lp < (0 : Int32)) (hl3 : lp < (3 : Int32)) (hlf : lf lp.toNatClampNeg = some adL) (q4 : ¬ guv < (0 : Int32)) (q5 : ¬ (2 : Int32) < guv) (q6 : ¬ shv < (0 : Int32)) (q7 : ¬ (1000 : Int32) < shv) : Met l yX5_setGuard (Cond.code yX5_setGuard cX5_setGuard 6 (some .int) :: wAll) ({ frames := 2, cells := 0, slots := 0, locals := 42 }) (va_Pc [.ref adB, .int lp, .int guv, .int shv] (gP (dC, dI) [zX5 adB adA bs, zAL cO adA 3 lf, zX1 adL adc adp ads adr lmo lha lfo lma lst lou, zX0 adc kp ki kd klo khi kgu ksh khe ksp kig ksu adp kle klr kgo] (tyG cI cJ cZ cO) sz gN)) (va_Qi (fun r (_ : Unit) => r = kgu) (fun _ t => gB (dC, dI) (va_A [zX5 adB adA bs, zAL cO adA 3 lf, zX1 adL adc adp ads adr lmo lha lfo lma lst lou, zX0 adc kp ki kd klo khi kgu ksh khe ksp kig ksu adp kle klr kgo] sz) [zX5 adB adA bs, zAL cO adA 3 lf, zX1 adL adc adp ads adr lmo lha lfo lma lst lou, zX0 adc kp ki kd klo khi guv shv khe ksp kig ksu adp kle klr kgo] (tyG cI cJ cZ cO) t) (va_A [zX5 adB adA bs, zAL cO adA 3 lf, zX1 adL adc adp ads adr lmo lha lfo lma lst lou, zX0 adc kp ki kd klo khi kgu ksh khe ksp kig ksu adp kle klr kgo] sz)) 0 0 (va_A [zX5 adB adA bs, zAL cO adA 3 lf, zX1 adL adc adp ads adr lmo lha lfo lma lst lou, zX0 adc kp ki kd klo khi kgu ksh khe ksp kig ksu adp kle klr kgo] sz) := by
  refine Met.ofW (cc := cX5_setGuard) (maxL := 6) (ret := (some .int)) (by decide) rfl ?_
  intro p e s m args below meth c s₁ B hml hv
  obtain ⟨rfl, hsz, hP, hK, hD0, hG⟩ := hv
  have hx := B.exec
  have hb := B.bytes
  have hr := B.returns
  have hts := ht_of B.pre
  have hown : s.vm.findClass RX5 = some m.cls := findClass_of_methodNamed B.named
  have hlocks := B.notSynchronized
  subst hsz
  have hD := hD0.self (sz := s.heap.size)
  generalize hAe : va_A [zX5 adB adA bs, zAL cO adA 3 lf, zX1 adL adc adp ads adr lmo lha lfo lma lst lou, zX0 adc kp ki kd klo khi kgu ksh khe ksp kig ksu adp kle klr kgo] s.heap.size = A at hD ⊢
  have hA : ∀ q : Nat, s.heap.size ≤ q → A q := fun q h => by rw [← hAe]; exact Or.inr h
  have hS : va_S A s.heap s.heap [] := va_S.rf
  have hP : va_P (dC, dI) vwCl [zX5 adB adA bs, zAL cO adA 3 lf, zX1 adL adc adp ads adr lmo lha lfo lma lst lou, zX0 adc kp ki kd klo khi kgu ksh khe ksp kig ksu adp kle klr kgo] s.heap := hP
  have hl := lv_entry ([.ref adB, .int lp, .int guv, .int shv]) (n := 6) (Nat.le_of_ble_eq_true rfl)
  rw [lg_entry_eq]
  generalize (lg_sl ([.ref adB, .int lp, .int guv, .int shv]) ++ List.replicate (6 - (lg_sl ([.ref adB, .int lp, .int guv, .int shv])).length) Slot.unset).toArray = ls at hl ⊢
  have hl : lv_has ls 6 [(0, .ref adB), (1, .int lp), (2, .int guv), (3, .int shv)] := hl
  refine hh_name (fun Q hQ => ?_)
  refine lv_aload_n hx hb dX5_setGuard_0 rfl (lv_at hl 0 rfl) ?_
  refine lv_iload_n hx hb dX5_setGuard_1 rfl (lv_at hl 1 rfl) ?_
  refine hh_callq (w2 := [zX5 adB adA bs, zAL cO adA 3 lf, zX1 adL adc adp ads adr lmo lha lfo lma lst lou, zX0 adc kp ki kd klo khi kgu ksh khe ksp kig ksu adp kle klr kgo]) (va_runV (As := [.int lp]) (rest := []) ⟨hx, hb, hml, hown, hts⟩ (c_X5_loopAt l dC dI cI cJ cZ cO adB adA bs lf lp adL _ hl0 hl3 hlf) (cwV 1 hts (gd_V wd_2_38 wd_2_40 wd_p_0 wd_1_1 wd_2_41) rfl rfl rfl (by decide +kernel) ⟨Nat.le_of_ble_eq_true rfl, Nat.le_of_ble_eq_true rfl⟩) (hh_pV (ci := 5) (q := (RX5, TX5, 2)) (q0 := 0) rfl rfl gN_c (fun U _ hW => gN_w hW hG) hK hP hD [0, 1] rfl rfl) rfl rfl hl.1 rfl (lv_room (Nat.le_of_ble_eq_true rfl)) dX5_setGuard_2 ⟨Nat.le_of_ble_eq_true rfl, Nat.le_of_ble_eq_true rfl⟩) hP hD hS hA [0, 1] [2, 3] [2, 3, 0, 1] rfl rfl rfl (by decide) rfl rfl (fun H locs hP hD hS => ?_)
  refine hh_setv (y := .ref adL) rfl ?_
  refine va_get (D := (dC, dI)) (ci := 1) (v := .ref adc) (C := RX1) (T := TX1) (N := 10) hx hb hts inW_X1 hown hK hP 2 rfl rfl 0 (by decide) (hts _ wd_1_214) (fun _ h9 => h9) rfl dX5_setGuard_5 ?_
  refine lv_astore (lv' := [(4, .ref adc), (0, .ref adB), (1, .int lp), (2, .int guv), (3, .int shv)]) hx hb dX5_setGuard_8 hl (by decide) rfl (fun ls hl => ?_)
  refine lv_iload_n hx hb dX5_setGuard_10 rfl (lv_at hl 3 rfl) ?_
  refine lv_iconst (v := 0) hx hb dX5_setGuard_11 (by decide) ?_
  refine lv_iconst (v := 2) hx hb dX5_setGuard_12 (by decide) ?_
  refine hh_callv (w2 := [zX5 adB adA bs, zAL cO adA 3 lf, zX1 adL adc adp ads adr lmo lha lfo lma lst lou, zX0 adc kp ki kd klo khi kgu ksh khe ksp kig ksu adp kle klr kgo]) (va_runS (As := [.int guv, .int (0 : Int32), .int (2 : Int32)]) (rest := []) ⟨hx, hb, hml, hown, hts⟩ (c_X5_requireWithin l dC dI cI cJ cZ cO guv (0 : Int32) (2 : Int32) _ q4 q5) (va_cwS 3 hts (gd_S wd_2_110 wd_2_111 wd_1_1 wd_2_112) rfl rfl rfl (by decide +kernel) ⟨Nat.le_of_ble_eq_true rfl, Nat.le_of_ble_eq_true rfl⟩) (hh_pS gN_c (fun U _ hW => gN_w hW hG) hK hP hD [] rfl rfl) rfl rfl hl.1 rfl (lv_room (Nat.le_of_ble_eq_true rfl)) dX5_setGuard_13 ⟨Nat.le_of_ble_eq_true rfl, Nat.le_of_ble_eq_true rfl⟩) hP hD hS hA [] [0, 1, 2, 3] [0, 1, 2, 3] rfl rfl rfl (by decide) rfl rfl (fun H locs hP hD hS => ?_)
  refine lv_iload_n hx hb dX5_setGuard_16 rfl (lv_at hl 4 rfl) ?_
  refine lv_iconst (v := 0) hx hb dX5_setGuard_17 (by decide) ?_
  refine lv_sipush (v := 1000) hx hb dX5_setGuard_18 (by decide) ?_
  refine hh_callv (w2 := [zX5 adB adA bs, zAL cO adA 3 lf, zX1 adL adc adp ads adr lmo lha lfo lma lst lou, zX0 adc kp ki kd klo khi kgu ksh khe ksp kig ksu adp kle klr kgo]) (va_runS (As := [.int shv, .int (0 : Int32), .int (1000 : Int32)]) (rest := []) ⟨hx, hb, hml, hown, hts⟩ (c_X5_requireWithin l dC dI cI cJ cZ cO shv (0 : Int32) (1000 : Int32) _ q6 q7) (va_cwS 3 hts (gd_S wd_2_110 wd_2_111 wd_1_1 wd_2_112) rfl rfl rfl (by decide +kernel) ⟨Nat.le_of_ble_eq_true rfl, Nat.le_of_ble_eq_true rfl⟩) (hh_pS gN_c (fun U _ hW => gN_w hW hG) hK hP hD [] rfl rfl) rfl rfl hl.1 rfl (lv_room (Nat.le_of_ble_eq_true rfl)) dX5_setGuard_21 ⟨Nat.le_of_ble_eq_true rfl, Nat.le_of_ble_eq_true rfl⟩) hP hD hS hA [] [0, 1, 2, 3] [0, 1, 2, 3] rfl rfl rfl (by decide) rfl rfl (fun H locs hP hD hS => ?_)
  refine lv_aload hx hb dX5_setGuard_24 (lv_at hl 0 rfl) ?_
  refine va_get (D := (dC, dI)) (ci := 0) (v := .int kgu) (C := RX0) (T := TX0) (N := 15) hx hb hts inW_X0 hown hK hP 3 rfl rfl 5 (by decide) (hts _ wd_1_93) (fun _ h9 => h9) rfl dX5_setGuard_26 ?_
  refine lv_istore (lv' := [(5, .int kgu), (4, .ref adc), (0, .ref adB), (1, .int lp), (2, .int guv), (3, .int shv)]) hx hb dX5_setGuard_29 hl (by decide) rfl (fun ls hl => ?_)
  refine lv_aload hx hb dX5_setGuard_31 (lv_at hl 1 rfl) ?_
  refine lv_iload_n hx hb dX5_setGuard_33 rfl (lv_at hl 4 rfl) ?_
  refine va_put (D := (dC, dI)) (ci := 0) (v := .int guv) (ty := .int) (C := RX0) (T := TX0) (N := 15) hx hb hts inW_X0 tyX0 tyX0_ok nmX0 hown hK hP hD hS 3 rfl rfl 5 (by decide) (hts _ wd_1_93) (fun _ h9 => h9) rfl (tyX0_ok 5 (by decide)) rfl rfl (Nat.le_of_ble_eq_true rfl) dX5_setGuard_34 (fun H locs hP hD hS => ?_)
  have hP : va_P (dC, dI) vwCl [zX5 adB adA bs, zAL cO adA 3 lf, zX1 adL adc adp ads adr lmo lha lfo lma lst lou, zX0 adc kp ki kd klo khi guv ksh khe ksp kig ksu adp kle klr kgo] H := hP
  have hD : va_D A [zX5 adB adA bs, zAL cO adA 3 lf, zX1 adL adc adp ads adr lmo lha lfo lma lst lou, zX0 adc kp ki kd klo khi guv ksh khe ksp kig ksu adp kle klr kgo] := hD
  refine lv_aload hx hb dX5_setGuard_37 (lv_at hl 1 rfl) ?_
  refine lv_iload_n hx hb dX5_setGuard_39 rfl (lv_at hl 5 rfl) ?_
  refine va_put (D := (dC, dI)) (ci := 0) (v := .int shv) (ty := .int) (C := RX0) (T := TX0) (N := 15) hx hb hts inW_X0 tyX0 tyX0_ok nmX0 hown hK hP hD hS 3 rfl rfl 6 (by decide) (hts _ wd_1_96) (fun _ h9 => h9) rfl (tyX0_ok 6 (by decide)) rfl rfl (Nat.le_of_ble_eq_true rfl) dX5_setGuard_40 (fun H locs hP hD hS => ?_)
  have hP : va_P (dC, dI) vwCl [zX5 adB adA bs, zAL cO adA 3 lf, zX1 adL adc adp ads adr lmo lha lfo lma lst lou, zX0 adc kp ki kd klo khi guv shv khe ksp kig ksu adp kle klr kgo] H := hP
  have hD : va_D A [zX5 adB adA bs, zAL cO adA 3 lf, zX1 adL adc adp ads adr lmo lha lfo lma lst lou, zX0 adc kp ki kd klo khi guv shv khe ksp kig ksu adp kle klr kgo] := hD
  refine lv_iload hx hb dX5_setGuard_43 (lv_at hl 0 rfl) ?_
  exact hh_reti hQ (rfl) hx hb hr hlocks hP hK hD hS dX5_setGuard_45
def f_X5_setSetpoint_j1_1 (lmo : Int32) : Int32 := if lmo = (2 : Int32) then (0 : Int32) else (1 : Int32)
theorem f_X5_setSetpoint_j1_1_z (lmo : Int32) : narrow .boolean (.int (f_X5_setSetpoint_j1_1 lmo)) = .int (f_X5_setSetpoint_j1_1 lmo) := by
  unfold f_X5_setSetpoint_j1_1
  repeat' split
  all_goals rfl
def f_X5_setSetpoint_ksp (spv : Int32) : Int64 := spv.toInt64
def f_X5_setSetpoint_r (ksp : Int64) : Int32 := ksp.toInt32
set_option maxHeartbeats 4000000 in
set_option maxRecDepth 100000 in
theorem c_X5_setSetpoint (l : Launch) (dC : Nat → ClassId) (dI : Nat → Nat → Nat) (cI cJ cZ cO : ClassId) (adB adA : Nat) (bs : Int32) (lf : Nat → Option Nat) (adL adc adp ads adr : Nat) (lmo : Int32) (lha : Int64) (lfo lma lst : Int32) (lou : Int64) (kp ki kd klo khi kgu ksh khe : Int32) (ksp kig ksu kle klr : Int64) (kgo lp spv : Int32) (sz : Nat) (hl0 : ¬ lp < (0 : Int32)) (hl3 : lp < (3 : Int32)) (hlf : lf lp.toNatClampNeg = some adL) (q4 : ¬ spv < (-1000000 : Int32)) (q5 : ¬ (1000000 : Int32) < spv) (q6 : ¬ (f_X5_setSetpoint_j1_1 lmo) = (0 : Int32)) : Met l yX5_setSetpoint (Cond.code yX5_setSetpoint cX5_setSetpoint 6 (some .int) :: wAll) ({ frames := 2, cells := 0, slots := 0, locals := 42 }) (va_Pc [.ref adB, .int lp, .int spv] (gP (dC, dI) [zX5 adB adA bs, zAL cO adA 3 lf, zX1 adL adc adp ads adr lmo lha lfo lma lst lou, zX0 adc kp ki kd klo khi kgu ksh khe ksp kig ksu adp kle klr kgo] (tyG cI cJ cZ cO) sz gN)) (va_Qi (fun r (_ : Unit) => r = (f_X5_setSetpoint_r ksp)) (fun _ t => gB (dC, dI) (va_A [zX5 adB adA bs, zAL cO adA 3 lf, zX1 adL adc adp ads adr lmo lha lfo lma lst lou, zX0 adc kp ki kd klo khi kgu ksh khe ksp kig ksu adp kle klr kgo] sz) [zX5 adB adA bs, zAL cO adA 3 lf, zX1 adL adc adp ads adr lmo lha lfo lma lst lou, zX0 adc kp ki kd klo khi kgu ksh khe (f_X5_setSetpoint_ksp spv) kig ksu adp kle klr kgo] (tyG cI cJ cZ cO) t) (va_A [zX5 adB adA bs, zAL cO adA 3 lf, zX1 adL adc adp ads adr lmo lha lfo lma lst lou, zX0 adc kp ki kd klo khi kgu ksh khe ksp kig ksu adp kle klr kgo] sz)) 0 0 (va_A [zX5 adB adA bs, zAL cO adA 3 lf, zX1 adL adc adp ads adr lmo lha lfo lma lst lou, zX0 adc kp ki kd klo khi kgu ksh khe ksp kig ksu adp kle klr kgo] sz) := by
  refine Met.ofW (cc := cX5_setSetpoint) (maxL := 6) (ret := (some .int)) (by decide) rfl ?_
  intro p e s m args below meth c s₁ B hml hv
  obtain ⟨rfl, hsz, hP, hK, hD0, hG⟩ := hv
  have hx := B.exec
  have hb := B.bytes
  have hr := B.returns
  have hts := ht_of B.pre
  have hown : s.vm.findClass RX5 = some m.cls := findClass_of_methodNamed B.named
  have hlocks := B.notSynchronized
  subst hsz
  have hD := hD0.self (sz := s.heap.size)
  generalize hAe : va_A [zX5 adB adA bs, zAL cO adA 3 lf, zX1 adL adc adp ads adr lmo lha lfo lma lst lou, zX0 adc kp ki kd klo khi kgu ksh khe ksp kig ksu adp kle klr kgo] s.heap.size = A at hD ⊢
  have hA : ∀ q : Nat, s.heap.size ≤ q → A q := fun q h => by rw [← hAe]; exact Or.inr h
  have hS : va_S A s.heap s.heap [] := va_S.rf
  have hP : va_P (dC, dI) vwCl [zX5 adB adA bs, zAL cO adA 3 lf, zX1 adL adc adp ads adr lmo lha lfo lma lst lou, zX0 adc kp ki kd klo khi kgu ksh khe ksp kig ksu adp kle klr kgo] s.heap := hP
  have hl := lv_entry ([.ref adB, .int lp, .int spv]) (n := 6) (Nat.le_of_ble_eq_true rfl)
  rw [lg_entry_eq]
  generalize (lg_sl ([.ref adB, .int lp, .int spv]) ++ List.replicate (6 - (lg_sl ([.ref adB, .int lp, .int spv])).length) Slot.unset).toArray = ls at hl ⊢
  have hl : lv_has ls 6 [(0, .ref adB), (1, .int lp), (2, .int spv)] := hl
  refine hh_name (fun Q hQ => ?_)
  refine lv_aload_n hx hb dX5_setSetpoint_0 rfl (lv_at hl 0 rfl) ?_
  refine lv_iload_n hx hb dX5_setSetpoint_1 rfl (lv_at hl 1 rfl) ?_
  refine hh_callq (w2 := [zX5 adB adA bs, zAL cO adA 3 lf, zX1 adL adc adp ads adr lmo lha lfo lma lst lou, zX0 adc kp ki kd klo khi kgu ksh khe ksp kig ksu adp kle klr kgo]) (va_runV (As := [.int lp]) (rest := []) ⟨hx, hb, hml, hown, hts⟩ (c_X5_loopAt l dC dI cI cJ cZ cO adB adA bs lf lp adL _ hl0 hl3 hlf) (cwV 1 hts (gd_V wd_2_38 wd_2_40 wd_p_0 wd_1_1 wd_2_41) rfl rfl rfl (by decide +kernel) ⟨Nat.le_of_ble_eq_true rfl, Nat.le_of_ble_eq_true rfl⟩) (hh_pV (ci := 5) (q := (RX5, TX5, 2)) (q0 := 0) rfl rfl gN_c (fun U _ hW => gN_w hW hG) hK hP hD [0, 1] rfl rfl) rfl rfl hl.1 rfl (lv_room (Nat.le_of_ble_eq_true rfl)) dX5_setSetpoint_2 ⟨Nat.le_of_ble_eq_true rfl, Nat.le_of_ble_eq_true rfl⟩) hP hD hS hA [0, 1] [2, 3] [2, 3, 0, 1] rfl rfl rfl (by decide) rfl rfl (fun H locs hP hD hS => ?_)
  refine hh_setv (y := .ref adL) rfl ?_
  refine lv_astore_n (lv' := [(3, .ref adL), (0, .ref adB), (1, .int lp), (2, .int spv)]) hx hb dX5_setSetpoint_5 rfl hl (by decide) rfl (fun ls hl => ?_)
  refine lv_iload_n hx hb dX5_setSetpoint_6 rfl (lv_at hl 3 rfl) ?_
  refine lv_ldc (v := -1000000) hx hb hown (hts _ wd_2_213) dX5_setSetpoint_7 ?_
  refine lv_ldc (v := 1000000) hx hb hown (hts _ wd_2_214) dX5_setSetpoint_9 ?_
  refine hh_callv (w2 := [zX5 adB adA bs, zAL cO adA 3 lf, zX1 adL adc adp ads adr lmo lha lfo lma lst lou, zX0 adc kp ki kd klo khi kgu ksh khe ksp kig ksu adp kle klr kgo]) (va_runS (As := [.int spv, .int (-1000000 : Int32), .int (1000000 : Int32)]) (rest := []) ⟨hx, hb, hml, hown, hts⟩ (c_X5_requireWithin l dC dI cI cJ cZ cO spv (-1000000 : Int32) (1000000 : Int32) _ q4 q5) (va_cwS 3 hts (gd_S wd_2_110 wd_2_111 wd_1_1 wd_2_112) rfl rfl rfl (by decide +kernel) ⟨Nat.le_of_ble_eq_true rfl, Nat.le_of_ble_eq_true rfl⟩) (hh_pS gN_c (fun U _ hW => gN_w hW hG) hK hP hD [] rfl rfl) rfl rfl hl.1 rfl (lv_room (Nat.le_of_ble_eq_true rfl)) dX5_setSetpoint_11 ⟨Nat.le_of_ble_eq_true rfl, Nat.le_of_ble_eq_true rfl⟩) hP hD hS hA [] [0, 1, 2, 3] [0, 1, 2, 3] rfl rfl rfl (by decide) rfl rfl (fun H locs hP hD hS => ?_)
  refine lv_aload_n hx hb dX5_setSetpoint_14 rfl (lv_at hl 0 rfl) ?_
  refine va_get (D := (dC, dI)) (ci := 1) (v := .int lmo) (C := RX1) (T := TX1) (N := 10) hx hb hts inW_X1 hown hK hP 2 rfl rfl 4 (by decide) (hts _ wd_1_222) (fun _ h9 => h9) rfl dX5_setSetpoint_15 ?_
  refine lv_iconst (v := 2) hx hb dX5_setSetpoint_18 (by decide) ?_
  have J1 : ∀ (H : Heap) (locs : List Loc) (ls : Array Slot), va_P (dC, dI) vwCl [zX5 adB adA bs, zAL cO adA 3 lf, zX1 adL adc adp ads adr lmo lha lfo lma lst lou, zX0 adc kp ki kd klo khi kgu ksh khe ksp kig ksu adp kle klr kgo] H → va_D A [zX5 adB adA bs, zAL cO adA 3 lf, zX1 adL adc adp ads adr lmo lha lfo lma lst lou, zX0 adc kp ki kd klo khi kgu ksh khe ksp kig ksu adp kle klr kgo] → va_S A s.heap H locs → lv_has ls 6 [(3, .ref adL), (0, .ref adB), (1, .int lp), (2, .int spv)] → W p l e (headSpec (Cond.code yX5_setSetpoint cX5_setSetpoint 6 (some .int) :: wAll) ({ frames := 2, cells := 0, slots := 0, locals := 42 })).room s m ([.ref adB, .int lp, .int spv] : List Value).toArray below meth c H locs 0 0 Q (F0 m 27 ls [.int (f_X5_setSetpoint_j1_1 lmo)]) := by
    intro H locs ls hP hD hS hl
    refine hh_callv (w2 := [zX5 adB adA bs, zAL cO adA 3 lf, zX1 adL adc adp ads adr lmo lha lfo lma lst lou, zX0 adc kp ki kd klo khi kgu ksh khe ksp kig ksu adp kle klr kgo]) (va_runS (As := [.int (f_X5_setSetpoint_j1_1 lmo)]) (rest := []) ⟨hx, hb, hml, hown, hts⟩ (c_X5_requireState l dC dI cI cJ cZ cO (f_X5_setSetpoint_j1_1 lmo) _ q6) (va_cwS 1 hts (gd_S wd_2_173 wd_2_174 wd_1_1 wd_2_175) rfl rfl rfl (by decide +kernel) ⟨Nat.le_of_ble_eq_true rfl, Nat.le_of_ble_eq_true rfl⟩) (hh_pS gN_c (fun U _ hW => gN_w hW hG) hK hP hD [] rfl rfl) rfl rfl hl.1 rfl (lv_room (Nat.le_of_ble_eq_true rfl)) dX5_setSetpoint_27 ⟨Nat.le_of_ble_eq_true rfl, Nat.le_of_ble_eq_true rfl⟩) hP hD hS hA [] [0, 1, 2, 3] [0, 1, 2, 3] rfl rfl rfl (by decide) rfl rfl (fun H locs hP hD hS => ?_)
    refine lv_aload_n hx hb dX5_setSetpoint_30 rfl (lv_at hl 0 rfl) ?_
    refine va_get (D := (dC, dI)) (ci := 1) (v := .ref adc) (C := RX1) (T := TX1) (N := 10) hx hb hts inW_X1 hown hK hP 2 rfl rfl 0 (by decide) (hts _ wd_1_214) (fun _ h9 => h9) rfl dX5_setSetpoint_31 ?_
    refine va_get (D := (dC, dI)) (ci := 0) (v := .long ksp) (C := RX0) (T := TX0) (N := 15) hx hb hts inW_X0 hown hK hP 3 rfl rfl 8 (by decide) (hts _ wd_1_101) (fun _ h9 => h9) rfl dX5_setSetpoint_34 ?_
    refine lv_lstore (lv' := [(4, .long ksp), (3, .ref adL), (0, .ref adB), (1, .int lp), (2, .int spv)]) hx hb dX5_setSetpoint_37 hl (by decide) rfl (fun ls hl => ?_)
    refine lv_aload_n hx hb dX5_setSetpoint_39 rfl (lv_at hl 1 rfl) ?_
    refine va_get (D := (dC, dI)) (ci := 1) (v := .ref adc) (C := RX1) (T := TX1) (N := 10) hx hb hts inW_X1 hown hK hP 2 rfl rfl 0 (by decide) (hts _ wd_1_214) (fun _ h9 => h9) rfl dX5_setSetpoint_40 ?_
    refine lv_iload_n hx hb dX5_setSetpoint_43 rfl (lv_at hl 4 rfl) ?_
    refine lv_i2l hx hb dX5_setSetpoint_44 rfl ?_
    refine va_put (D := (dC, dI)) (ci := 0) (v := .long (spv.toInt64)) (ty := .long) (C := RX0) (T := TX0) (N := 15) hx hb hts inW_X0 tyX0 tyX0_ok nmX0 hown hK hP hD hS 3 rfl rfl 8 (by decide) (hts _ wd_1_101) (fun _ h9 => h9) rfl (tyX0_ok 8 (by decide)) rfl rfl (Nat.le_of_ble_eq_true rfl) dX5_setSetpoint_45 (fun H locs hP hD hS => ?_)
    have hP : va_P (dC, dI) vwCl [zX5 adB adA bs, zAL cO adA 3 lf, zX1 adL adc adp ads adr lmo lha lfo lma lst lou, zX0 adc kp ki kd klo khi kgu ksh khe (spv.toInt64) kig ksu adp kle klr kgo] H := hP
    have hD : va_D A [zX5 adB adA bs, zAL cO adA 3 lf, zX1 adL adc adp ads adr lmo lha lfo lma lst lou, zX0 adc kp ki kd klo khi kgu ksh khe (spv.toInt64) kig ksu adp kle klr kgo] := hD
    refine lv_lload hx hb dX5_setSetpoint_48 (lv_at hl 0 rfl) ?_
    refine lv_l2i hx hb dX5_setSetpoint_50 rfl ?_
    exact hh_reti hQ (rfl) hx hb hr hlocks hP hK hD hS dX5_setSetpoint_51
  refine lv_icmp_eq (tgt := 26) hx hb dX5_setSetpoint_19 (by decide) (fun h1 => ?_) (fun h1 => ?_)
  · skip
    refine lv_iconst (v := 0) hx hb dX5_setSetpoint_26 (by decide) ?_
    have e2 : (f_X5_setSetpoint_j1_1 lmo) = (0 : Int32) := if_pos h1
    refine hh_seti (y := (f_X5_setSetpoint_j1_1 lmo)) (if_pos h1) ?_
    exact J1 _ _ _ (hP) (hD) hS (lv_sub hl [0, 1, 2, 3] rfl)
  · skip
    refine lv_iconst (v := 1) hx hb dX5_setSetpoint_22 (by decide) ?_
    refine lv_goto (tgt := 27) hx hb dX5_setSetpoint_23 (by decide) ?_
    have e3 : (f_X5_setSetpoint_j1_1 lmo) = (1 : Int32) := if_neg h1
    refine hh_seti (y := (f_X5_setSetpoint_j1_1 lmo)) (if_neg h1) ?_
    exact J1 _ _ _ (hP) (hD) hS (lv_sub hl [0, 1, 2, 3] rfl)
def f_X5_setHand_j1_1 (lmo : Int32) : Int32 := if lmo = (0 : Int32) then (1 : Int32) else (0 : Int32)
theorem f_X5_setHand_j1_1_z (lmo : Int32) : narrow .boolean (.int (f_X5_setHand_j1_1 lmo)) = .int (f_X5_setHand_j1_1 lmo) := by
  unfold f_X5_setHand_j1_1
  repeat' split
  all_goals rfl
def f_X5_setHand_lha (hav : Int32) : Int64 := hav.toInt64
def f_X5_setHand_r (lha : Int64) : Int32 := lha.toInt32
set_option maxHeartbeats 4000000 in
set_option maxRecDepth 100000 in
theorem c_X5_setHand (l : Launch) (dC : Nat → ClassId) (dI : Nat → Nat → Nat) (cI cJ cZ cO : ClassId) (adB adA : Nat) (bs : Int32) (lf : Nat → Option Nat) (adL adc adp ads adr : Nat) (lmo : Int32) (lha : Int64) (lfo lma lst : Int32) (lou : Int64) (lp hav : Int32) (sz : Nat) (hl0 : ¬ lp < (0 : Int32)) (hl3 : lp < (3 : Int32)) (hlf : lf lp.toNatClampNeg = some adL) (q4 : ¬ hav < (-1000000 : Int32)) (q5 : ¬ (1000000 : Int32) < hav) (q6 : ¬ (f_X5_setHand_j1_1 lmo) = (0 : Int32)) : Met l yX5_setHand (Cond.code yX5_setHand cX5_setHand 6 (some .int) :: wAll) ({ frames := 2, cells := 0, slots := 0, locals := 42 }) (va_Pc [.ref adB, .int lp, .int hav] (gP (dC, dI) [zX5 adB adA bs, zAL cO adA 3 lf, zX1 adL adc adp ads adr lmo lha lfo lma lst lou] (tyG cI cJ cZ cO) sz gN)) (va_Qi (fun r (_ : Unit) => r = (f_X5_setHand_r lha)) (fun _ t => gB (dC, dI) (va_A [zX5 adB adA bs, zAL cO adA 3 lf, zX1 adL adc adp ads adr lmo lha lfo lma lst lou] sz) [zX5 adB adA bs, zAL cO adA 3 lf, zX1 adL adc adp ads adr lmo (f_X5_setHand_lha hav) lfo lma lst lou] (tyG cI cJ cZ cO) t) (va_A [zX5 adB adA bs, zAL cO adA 3 lf, zX1 adL adc adp ads adr lmo lha lfo lma lst lou] sz)) 0 0 (va_A [zX5 adB adA bs, zAL cO adA 3 lf, zX1 adL adc adp ads adr lmo lha lfo lma lst lou] sz) := by
  refine Met.ofW (cc := cX5_setHand) (maxL := 6) (ret := (some .int)) (by decide) rfl ?_
  intro p e s m args below meth c s₁ B hml hv
  obtain ⟨rfl, hsz, hP, hK, hD0, hG⟩ := hv
  have hx := B.exec
  have hb := B.bytes
  have hr := B.returns
  have hts := ht_of B.pre
  have hown : s.vm.findClass RX5 = some m.cls := findClass_of_methodNamed B.named
  have hlocks := B.notSynchronized
  subst hsz
  have hD := hD0.self (sz := s.heap.size)
  generalize hAe : va_A [zX5 adB adA bs, zAL cO adA 3 lf, zX1 adL adc adp ads adr lmo lha lfo lma lst lou] s.heap.size = A at hD ⊢
  have hA : ∀ q : Nat, s.heap.size ≤ q → A q := fun q h => by rw [← hAe]; exact Or.inr h
  have hS : va_S A s.heap s.heap [] := va_S.rf
  have hP : va_P (dC, dI) vwCl [zX5 adB adA bs, zAL cO adA 3 lf, zX1 adL adc adp ads adr lmo lha lfo lma lst lou] s.heap := hP
  have hl := lv_entry ([.ref adB, .int lp, .int hav]) (n := 6) (Nat.le_of_ble_eq_true rfl)
  rw [lg_entry_eq]
  generalize (lg_sl ([.ref adB, .int lp, .int hav]) ++ List.replicate (6 - (lg_sl ([.ref adB, .int lp, .int hav])).length) Slot.unset).toArray = ls at hl ⊢
  have hl : lv_has ls 6 [(0, .ref adB), (1, .int lp), (2, .int hav)] := hl
  refine hh_name (fun Q hQ => ?_)
  refine lv_aload_n hx hb dX5_setHand_0 rfl (lv_at hl 0 rfl) ?_
  refine lv_iload_n hx hb dX5_setHand_1 rfl (lv_at hl 1 rfl) ?_
  refine hh_callq (w2 := [zX5 adB adA bs, zAL cO adA 3 lf, zX1 adL adc adp ads adr lmo lha lfo lma lst lou]) (va_runV (As := [.int lp]) (rest := []) ⟨hx, hb, hml, hown, hts⟩ (c_X5_loopAt l dC dI cI cJ cZ cO adB adA bs lf lp adL _ hl0 hl3 hlf) (cwV 1 hts (gd_V wd_2_38 wd_2_40 wd_p_0 wd_1_1 wd_2_41) rfl rfl rfl (by decide +kernel) ⟨Nat.le_of_ble_eq_true rfl, Nat.le_of_ble_eq_true rfl⟩) (hh_pV (ci := 5) (q := (RX5, TX5, 2)) (q0 := 0) rfl rfl gN_c (fun U _ hW => gN_w hW hG) hK hP hD [0, 1] rfl rfl) rfl rfl hl.1 rfl (lv_room (Nat.le_of_ble_eq_true rfl)) dX5_setHand_2 ⟨Nat.le_of_ble_eq_true rfl, Nat.le_of_ble_eq_true rfl⟩) hP hD hS hA [0, 1] [2] [1, 2, 0] rfl rfl rfl (by decide) rfl rfl (fun H locs hP hD hS => ?_)
  refine hh_setv (y := .ref adL) rfl ?_
  refine lv_astore_n (lv' := [(3, .ref adL), (0, .ref adB), (1, .int lp), (2, .int hav)]) hx hb dX5_setHand_5 rfl hl (by decide) rfl (fun ls hl => ?_)
  refine lv_iload_n hx hb dX5_setHand_6 rfl (lv_at hl 3 rfl) ?_
  refine lv_ldc (v := -1000000) hx hb hown (hts _ wd_2_213) dX5_setHand_7 ?_
  refine lv_ldc (v := 1000000) hx hb hown (hts _ wd_2_214) dX5_setHand_9 ?_
  refine hh_callv (w2 := [zX5 adB adA bs, zAL cO adA 3 lf, zX1 adL adc adp ads adr lmo lha lfo lma lst lou]) (va_runS (As := [.int hav, .int (-1000000 : Int32), .int (1000000 : Int32)]) (rest := []) ⟨hx, hb, hml, hown, hts⟩ (c_X5_requireWithin l dC dI cI cJ cZ cO hav (-1000000 : Int32) (1000000 : Int32) _ q4 q5) (va_cwS 3 hts (gd_S wd_2_110 wd_2_111 wd_1_1 wd_2_112) rfl rfl rfl (by decide +kernel) ⟨Nat.le_of_ble_eq_true rfl, Nat.le_of_ble_eq_true rfl⟩) (hh_pS gN_c (fun U _ hW => gN_w hW hG) hK hP hD [] rfl rfl) rfl rfl hl.1 rfl (lv_room (Nat.le_of_ble_eq_true rfl)) dX5_setHand_11 ⟨Nat.le_of_ble_eq_true rfl, Nat.le_of_ble_eq_true rfl⟩) hP hD hS hA [] [0, 1, 2] [0, 1, 2] rfl rfl rfl (by decide) rfl rfl (fun H locs hP hD hS => ?_)
  refine lv_aload_n hx hb dX5_setHand_14 rfl (lv_at hl 0 rfl) ?_
  refine va_get (D := (dC, dI)) (ci := 1) (v := .int lmo) (C := RX1) (T := TX1) (N := 10) hx hb hts inW_X1 hown hK hP 2 rfl rfl 4 (by decide) (hts _ wd_1_222) (fun _ h9 => h9) rfl dX5_setHand_15 ?_
  have J1 : ∀ (H : Heap) (locs : List Loc) (ls : Array Slot), va_P (dC, dI) vwCl [zX5 adB adA bs, zAL cO adA 3 lf, zX1 adL adc adp ads adr lmo lha lfo lma lst lou] H → va_D A [zX5 adB adA bs, zAL cO adA 3 lf, zX1 adL adc adp ads adr lmo lha lfo lma lst lou] → va_S A s.heap H locs → lv_has ls 6 [(3, .ref adL), (0, .ref adB), (1, .int lp), (2, .int hav)] → W p l e (headSpec (Cond.code yX5_setHand cX5_setHand 6 (some .int) :: wAll) ({ frames := 2, cells := 0, slots := 0, locals := 42 })).room s m ([.ref adB, .int lp, .int hav] : List Value).toArray below meth c H locs 0 0 Q (F0 m 26 ls [.int (f_X5_setHand_j1_1 lmo)]) := by
    intro H locs ls hP hD hS hl
    refine hh_callv (w2 := [zX5 adB adA bs, zAL cO adA 3 lf, zX1 adL adc adp ads adr lmo lha lfo lma lst lou]) (va_runS (As := [.int (f_X5_setHand_j1_1 lmo)]) (rest := []) ⟨hx, hb, hml, hown, hts⟩ (c_X5_requireState l dC dI cI cJ cZ cO (f_X5_setHand_j1_1 lmo) _ q6) (va_cwS 1 hts (gd_S wd_2_173 wd_2_174 wd_1_1 wd_2_175) rfl rfl rfl (by decide +kernel) ⟨Nat.le_of_ble_eq_true rfl, Nat.le_of_ble_eq_true rfl⟩) (hh_pS gN_c (fun U _ hW => gN_w hW hG) hK hP hD [] rfl rfl) rfl rfl hl.1 rfl (lv_room (Nat.le_of_ble_eq_true rfl)) dX5_setHand_26 ⟨Nat.le_of_ble_eq_true rfl, Nat.le_of_ble_eq_true rfl⟩) hP hD hS hA [] [0, 1, 2] [0, 1, 2] rfl rfl rfl (by decide) rfl rfl (fun H locs hP hD hS => ?_)
    refine lv_aload_n hx hb dX5_setHand_29 rfl (lv_at hl 0 rfl) ?_
    refine va_get (D := (dC, dI)) (ci := 1) (v := .long lha) (C := RX1) (T := TX1) (N := 10) hx hb hts inW_X1 hown hK hP 2 rfl rfl 5 (by decide) (hts _ wd_1_224) (fun _ h9 => h9) rfl dX5_setHand_30 ?_
    refine lv_lstore (lv' := [(4, .long lha), (3, .ref adL), (0, .ref adB), (1, .int lp), (2, .int hav)]) hx hb dX5_setHand_33 hl (by decide) rfl (fun ls hl => ?_)
    refine lv_aload_n hx hb dX5_setHand_35 rfl (lv_at hl 1 rfl) ?_
    refine lv_iload_n hx hb dX5_setHand_36 rfl (lv_at hl 4 rfl) ?_
    refine lv_i2l hx hb dX5_setHand_37 rfl ?_
    refine va_put (D := (dC, dI)) (ci := 1) (v := .long (hav.toInt64)) (ty := .long) (C := RX1) (T := TX1) (N := 10) hx hb hts inW_X1 tyX1 tyX1_ok nmX1 hown hK hP hD hS 2 rfl rfl 5 (by decide) (hts _ wd_1_224) (fun _ h9 => h9) rfl (tyX1_ok 5 (by decide)) rfl rfl (Nat.le_of_ble_eq_true rfl) dX5_setHand_38 (fun H locs hP hD hS => ?_)
    have hP : va_P (dC, dI) vwCl [zX5 adB adA bs, zAL cO adA 3 lf, zX1 adL adc adp ads adr lmo (hav.toInt64) lfo lma lst lou] H := hP
    have hD : va_D A [zX5 adB adA bs, zAL cO adA 3 lf, zX1 adL adc adp ads adr lmo (hav.toInt64) lfo lma lst lou] := hD
    refine lv_lload hx hb dX5_setHand_41 (lv_at hl 0 rfl) ?_
    refine lv_l2i hx hb dX5_setHand_43 rfl ?_
    exact hh_reti hQ (rfl) hx hb hr hlocks hP hK hD hS dX5_setHand_44
  refine lv_if_ne (tgt := 25) hx hb dX5_setHand_18 (by decide) (fun h1 => ?_) (fun h1 => ?_)
  · skip
    refine lv_iconst (v := 0) hx hb dX5_setHand_25 (by decide) ?_
    have e2 : (f_X5_setHand_j1_1 lmo) = (0 : Int32) := if_neg h1
    refine hh_seti (y := (f_X5_setHand_j1_1 lmo)) (if_neg h1) ?_
    exact J1 _ _ _ (hP) (hD) hS (lv_sub hl [0, 1, 2, 3] rfl)
  · skip
    refine lv_iconst (v := 1) hx hb dX5_setHand_21 (by decide) ?_
    refine lv_goto (tgt := 26) hx hb dX5_setHand_22 (by decide) ?_
    have e3 : (f_X5_setHand_j1_1 lmo) = (1 : Int32) := if_pos h1
    refine hh_seti (y := (f_X5_setHand_j1_1 lmo)) (if_pos h1) ?_
    exact J1 _ _ _ (hP) (hD) hS (lv_sub hl [0, 1, 2, 3] rfl)
def f_X5_setTies_j1_1 (lp mav : Int32) : Int32 := if lp = (0 : Int32) then (if mav = (0 : Int32) then (1 : Int32) else (0 : Int32)) else (1 : Int32)
theorem f_X5_setTies_j1_1_z (lp mav : Int32) : narrow .boolean (.int (f_X5_setTies_j1_1 lp mav)) = .int (f_X5_setTies_j1_1 lp mav) := by
  unfold f_X5_setTies_j1_1
  repeat' split
  all_goals rfl
def f_X5_setTies_j2_1 (lmo mav : Int32) : Int32 := if mav = (0 : Int32) then (if lmo = (2 : Int32) then (0 : Int32) else (1 : Int32)) else (1 : Int32)
theorem f_X5_setTies_j2_1_z (lmo mav : Int32) : narrow .boolean (.int (f_X5_setTies_j2_1 lmo mav)) = .int (f_X5_setTies_j2_1 lmo mav) := by
  unfold f_X5_setTies_j2_1
  repeat' split
  all_goals rfl
set_option maxHeartbeats 4000000 in
set_option maxRecDepth 100000 in
theorem c_X5_setTies (l : Launch) (dC : Nat → ClassId) (dI : Nat → Nat → Nat) (cI cJ cZ cO : ClassId) (adB adA : Nat) (bs : Int32) (lf : Nat → Option Nat) (adL adc adp ads adr : Nat) (lmo : Int32) (lha : Int64) (lfo lma lst : Int32) (lou : Int64) (lp fov mav : Int32) (sz : Nat) (hl0 : ¬ lp < (0 : Int32)) (hl3 : lp < (3 : Int32)) (hlf : lf lp.toNatClampNeg = some adL) (hzf : narrow .boolean (.int fov) = .int fov) (hzm : narrow .boolean (.int mav) = .int mav) (q6 : ¬ (f_X5_setTies_j1_1 lp mav) = (0 : Int32)) (q7 : ¬ (f_X5_setTies_j2_1 lmo mav) = (0 : Int32)) : Met l yX5_setTies (Cond.code yX5_setTies cX5_setTies 5 none :: wAll) ({ frames := 1, cells := 0, slots := 0, locals := 21 }) (va_Pc [.ref adB, .int lp, .int fov, .int mav] (gP (dC, dI) [zX5 adB adA bs, zAL cO adA 3 lf, zX1 adL adc adp ads adr lmo lha lfo lma lst lou] (tyG cI cJ cZ cO) sz gN)) (va_Qv (fun (_ : Unit) => True) (fun _ t => gB (dC, dI) (va_A [zX5 adB adA bs, zAL cO adA 3 lf, zX1 adL adc adp ads adr lmo lha lfo lma lst lou] sz) [zX5 adB adA bs, zAL cO adA 3 lf, zX1 adL adc adp ads adr lmo lha fov mav lst lou] (tyG cI cJ cZ cO) t) (va_A [zX5 adB adA bs, zAL cO adA 3 lf, zX1 adL adc adp ads adr lmo lha lfo lma lst lou] sz)) 0 0 (va_A [zX5 adB adA bs, zAL cO adA 3 lf, zX1 adL adc adp ads adr lmo lha lfo lma lst lou] sz) := by
  refine Met.ofW (cc := cX5_setTies) (maxL := 5) (ret := none) (by decide) rfl ?_
  intro p e s m args below meth c s₁ B hml hv
  obtain ⟨rfl, hsz, hP, hK, hD0, hG⟩ := hv
  have hx := B.exec
  have hb := B.bytes
  have hr := B.returns
  have hts := ht_of B.pre
  have hown : s.vm.findClass RX5 = some m.cls := findClass_of_methodNamed B.named
  have hlocks := B.notSynchronized
  subst hsz
  have hD := hD0.self (sz := s.heap.size)
  generalize hAe : va_A [zX5 adB adA bs, zAL cO adA 3 lf, zX1 adL adc adp ads adr lmo lha lfo lma lst lou] s.heap.size = A at hD ⊢
  have hA : ∀ q : Nat, s.heap.size ≤ q → A q := fun q h => by rw [← hAe]; exact Or.inr h
  have hS : va_S A s.heap s.heap [] := va_S.rf
  have hP : va_P (dC, dI) vwCl [zX5 adB adA bs, zAL cO adA 3 lf, zX1 adL adc adp ads adr lmo lha lfo lma lst lou] s.heap := hP
  have hl := lv_entry ([.ref adB, .int lp, .int fov, .int mav]) (n := 5) (Nat.le_of_ble_eq_true rfl)
  rw [lg_entry_eq]
  generalize (lg_sl ([.ref adB, .int lp, .int fov, .int mav]) ++ List.replicate (5 - (lg_sl ([.ref adB, .int lp, .int fov, .int mav])).length) Slot.unset).toArray = ls at hl ⊢
  have hl : lv_has ls 5 [(0, .ref adB), (1, .int lp), (2, .int fov), (3, .int mav)] := hl
  refine hh_name (fun Q hQ => ?_)
  refine lv_aload_n hx hb dX5_setTies_0 rfl (lv_at hl 0 rfl) ?_
  refine lv_iload_n hx hb dX5_setTies_1 rfl (lv_at hl 1 rfl) ?_
  refine hh_callq (w2 := [zX5 adB adA bs, zAL cO adA 3 lf, zX1 adL adc adp ads adr lmo lha lfo lma lst lou]) (va_runV (As := [.int lp]) (rest := []) ⟨hx, hb, hml, hown, hts⟩ (c_X5_loopAt l dC dI cI cJ cZ cO adB adA bs lf lp adL _ hl0 hl3 hlf) (cwV 1 hts (gd_V wd_2_38 wd_2_40 wd_p_0 wd_1_1 wd_2_41) rfl rfl rfl (by decide +kernel) ⟨Nat.le_of_ble_eq_true rfl, Nat.le_of_ble_eq_true rfl⟩) (hh_pV (ci := 5) (q := (RX5, TX5, 2)) (q0 := 0) rfl rfl gN_c (fun U _ hW => gN_w hW hG) hK hP hD [0, 1] rfl rfl) rfl rfl hl.1 rfl (lv_room (Nat.le_of_ble_eq_true rfl)) dX5_setTies_2 ⟨Nat.le_of_ble_eq_true rfl, Nat.le_of_ble_eq_true rfl⟩) hP hD hS hA [0, 1] [2] [1, 2, 0] rfl rfl rfl (by decide) rfl rfl (fun H locs hP hD hS => ?_)
  refine hh_setv (y := .ref adL) rfl ?_
  refine lv_astore (lv' := [(4, .ref adL), (0, .ref adB), (1, .int lp), (2, .int fov), (3, .int mav)]) hx hb dX5_setTies_5 hl (by decide) rfl (fun ls hl => ?_)
  refine lv_iload_n hx hb dX5_setTies_7 rfl (lv_at hl 2 rfl) ?_
  have J1 : ∀ (H : Heap) (locs : List Loc) (ls : Array Slot), va_P (dC, dI) vwCl [zX5 adB adA bs, zAL cO adA 3 lf, zX1 adL adc adp ads adr lmo lha lfo lma lst lou] H → va_D A [zX5 adB adA bs, zAL cO adA 3 lf, zX1 adL adc adp ads adr lmo lha lfo lma lst lou] → va_S A s.heap H locs → lv_has ls 5 [(4, .ref adL), (0, .ref adB), (1, .int lp), (2, .int fov), (3, .int mav)] → W p l e (headSpec (Cond.code yX5_setTies cX5_setTies 5 none :: wAll) ({ frames := 1, cells := 0, slots := 0, locals := 21 })).room s m ([.ref adB, .int lp, .int fov, .int mav] : List Value).toArray below meth c H locs 0 0 Q (F0 m 20 ls [.int (f_X5_setTies_j1_1 lp mav)]) := by
    intro H locs ls hP hD hS hl
    refine hh_callv (w2 := [zX5 adB adA bs, zAL cO adA 3 lf, zX1 adL adc adp ads adr lmo lha lfo lma lst lou]) (va_runS (As := [.int (f_X5_setTies_j1_1 lp mav)]) (rest := []) ⟨hx, hb, hml, hown, hts⟩ (c_X5_requireArgument l dC dI cI cJ cZ cO (f_X5_setTies_j1_1 lp mav) _ q6) (va_cwS 1 hts (gd_S wd_2_113 wd_2_114 wd_1_1 wd_2_115) rfl rfl rfl (by decide +kernel) ⟨Nat.le_of_ble_eq_true rfl, Nat.le_of_ble_eq_true rfl⟩) (hh_pS gN_c (fun U _ hW => gN_w hW hG) hK hP hD [] rfl rfl) rfl rfl hl.1 rfl (lv_room (Nat.le_of_ble_eq_true rfl)) dX5_setTies_20 ⟨Nat.le_of_ble_eq_true rfl, Nat.le_of_ble_eq_true rfl⟩) hP hD hS hA [] [0, 1, 2] [0, 1, 2] rfl rfl rfl (by decide) rfl rfl (fun H locs hP hD hS => ?_)
    refine lv_iload_n hx hb dX5_setTies_23 rfl (lv_at hl 4 rfl) ?_
    have J2 : ∀ (H : Heap) (locs : List Loc) (ls : Array Slot), va_P (dC, dI) vwCl [zX5 adB adA bs, zAL cO adA 3 lf, zX1 adL adc adp ads adr lmo lha lfo lma lst lou] H → va_D A [zX5 adB adA bs, zAL cO adA 3 lf, zX1 adL adc adp ads adr lmo lha lfo lma lst lou] → va_S A s.heap H locs → lv_has ls 5 [(4, .ref adL), (0, .ref adB), (1, .int lp), (2, .int fov), (3, .int mav)] → W p l e (headSpec (Cond.code yX5_setTies cX5_setTies 5 none :: wAll) ({ frames := 1, cells := 0, slots := 0, locals := 21 })).room s m ([.ref adB, .int lp, .int fov, .int mav] : List Value).toArray below meth c H locs 0 0 Q (F0 m 41 ls [.int (f_X5_setTies_j2_1 lmo mav)]) := by
      intro H locs ls hP hD hS hl
      refine hh_callv (w2 := [zX5 adB adA bs, zAL cO adA 3 lf, zX1 adL adc adp ads adr lmo lha lfo lma lst lou]) (va_runS (As := [.int (f_X5_setTies_j2_1 lmo mav)]) (rest := []) ⟨hx, hb, hml, hown, hts⟩ (c_X5_requireState l dC dI cI cJ cZ cO (f_X5_setTies_j2_1 lmo mav) _ q7) (va_cwS 1 hts (gd_S wd_2_173 wd_2_174 wd_1_1 wd_2_175) rfl rfl rfl (by decide +kernel) ⟨Nat.le_of_ble_eq_true rfl, Nat.le_of_ble_eq_true rfl⟩) (hh_pS gN_c (fun U _ hW => gN_w hW hG) hK hP hD [] rfl rfl) rfl rfl hl.1 rfl (lv_room (Nat.le_of_ble_eq_true rfl)) dX5_setTies_41 ⟨Nat.le_of_ble_eq_true rfl, Nat.le_of_ble_eq_true rfl⟩) hP hD hS hA [] [0, 1, 2] [0, 1, 2] rfl rfl rfl (by decide) rfl rfl (fun H locs hP hD hS => ?_)
      refine lv_aload hx hb dX5_setTies_44 (lv_at hl 0 rfl) ?_
      refine lv_iload_n hx hb dX5_setTies_46 rfl (lv_at hl 3 rfl) ?_
      refine va_put (D := (dC, dI)) (ci := 1) (v := .int fov) (ty := .boolean) (C := RX1) (T := TX1) (N := 10) hx hb hts inW_X1 tyX1 tyX1_ok nmX1 hown hK hP hD hS 2 rfl rfl 6 (by decide) (hts _ wd_1_226) (fun _ h9 => h9) rfl (tyX1_ok 6 (by decide)) (hzf) (zfit (hzf)) (Nat.le_of_ble_eq_true rfl) dX5_setTies_47 (fun H locs hP hD hS => ?_)
      have hP : va_P (dC, dI) vwCl [zX5 adB adA bs, zAL cO adA 3 lf, zX1 adL adc adp ads adr lmo lha fov lma lst lou] H := hP
      have hD : va_D A [zX5 adB adA bs, zAL cO adA 3 lf, zX1 adL adc adp ads adr lmo lha fov lma lst lou] := hD
      refine lv_aload hx hb dX5_setTies_50 (lv_at hl 0 rfl) ?_
      refine lv_iload_n hx hb dX5_setTies_52 rfl (lv_at hl 4 rfl) ?_
      refine va_put (D := (dC, dI)) (ci := 1) (v := .int mav) (ty := .boolean) (C := RX1) (T := TX1) (N := 10) hx hb hts inW_X1 tyX1 tyX1_ok nmX1 hown hK hP hD hS 2 rfl rfl 7 (by decide) (hts _ wd_1_228) (fun _ h9 => h9) rfl (tyX1_ok 7 (by decide)) (hzm) (zfit (hzm)) (Nat.le_of_ble_eq_true rfl) dX5_setTies_53 (fun H locs hP hD hS => ?_)
      have hP : va_P (dC, dI) vwCl [zX5 adB adA bs, zAL cO adA 3 lf, zX1 adL adc adp ads adr lmo lha fov mav lst lou] H := hP
      have hD : va_D A [zX5 adB adA bs, zAL cO adA 3 lf, zX1 adL adc adp ads adr lmo lha fov mav lst lou] := hD
      exact hh_retv hQ hx hb hr hlocks hP hK hD hS dX5_setTies_56
    refine lv_if_ne (tgt := 36) hx hb dX5_setTies_24 (by decide) (fun h3 => ?_) (fun h3 => ?_)
    · skip
      refine lv_iconst (v := 1) hx hb dX5_setTies_36 (by decide) ?_
      refine lv_goto (tgt := 41) hx hb dX5_setTies_37 (by decide) ?_
      have e5 : (f_X5_setTies_j2_1 lmo mav) = (1 : Int32) := if_neg h3
      refine hh_seti (y := (f_X5_setTies_j2_1 lmo mav)) (if_neg h3) ?_
      exact J2 _ _ _ (hP) (hD) hS (lv_sub hl [0, 1, 2, 3, 4] rfl)
    · skip
      refine lv_aload hx hb dX5_setTies_27 (lv_at hl 0 rfl) ?_
      refine va_get (D := (dC, dI)) (ci := 1) (v := .int lmo) (C := RX1) (T := TX1) (N := 10) hx hb hts inW_X1 hown hK hP 2 rfl rfl 4 (by decide) (hts _ wd_1_222) (fun _ h9 => h9) rfl dX5_setTies_29 ?_
      refine lv_iconst (v := 2) hx hb dX5_setTies_32 (by decide) ?_
      refine lv_icmp_eq (tgt := 40) hx hb dX5_setTies_33 (by decide) (fun h4 => ?_) (fun h4 => ?_)
      · skip
        refine lv_iconst (v := 0) hx hb dX5_setTies_40 (by decide) ?_
        have e6 : (f_X5_setTies_j2_1 lmo mav) = (0 : Int32) := (if_pos h3).trans (if_pos h4)
        refine hh_seti (y := (f_X5_setTies_j2_1 lmo mav)) ((if_pos h3).trans (if_pos h4)) ?_
        exact J2 _ _ _ (hP) (hD) hS (lv_sub hl [0, 1, 2, 3, 4] rfl)
      · skip
        refine lv_iconst (v := 1) hx hb dX5_setTies_36 (by decide) ?_
        refine lv_goto (tgt := 41) hx hb dX5_setTies_37 (by decide) ?_
        have e7 : (f_X5_setTies_j2_1 lmo mav) = (1 : Int32) := (if_pos h3).trans (if_neg h4)
        refine hh_seti (y := (f_X5_setTies_j2_1 lmo mav)) ((if_pos h3).trans (if_neg h4)) ?_
        exact J2 _ _ _ (hP) (hD) hS (lv_sub hl [0, 1, 2, 3, 4] rfl)
  refine lv_if_ne (tgt := 15) hx hb dX5_setTies_8 (by decide) (fun h1 => ?_) (fun h1 => ?_)
  · skip
    refine lv_iconst (v := 1) hx hb dX5_setTies_15 (by decide) ?_
    refine lv_goto (tgt := 20) hx hb dX5_setTies_16 (by decide) ?_
    have e8 : (f_X5_setTies_j1_1 lp mav) = (1 : Int32) := if_neg h1
    refine hh_seti (y := (f_X5_setTies_j1_1 lp mav)) (if_neg h1) ?_
    exact J1 _ _ _ (hP) (hD) hS (lv_sub hl [0, 1, 2, 3, 4] rfl)
  · skip
    refine lv_iload_n hx hb dX5_setTies_11 rfl (lv_at hl 4 rfl) ?_
    refine lv_if_ne (tgt := 19) hx hb dX5_setTies_12 (by decide) (fun h2 => ?_) (fun h2 => ?_)
    · skip
      refine lv_iconst (v := 0) hx hb dX5_setTies_19 (by decide) ?_
      have e9 : (f_X5_setTies_j1_1 lp mav) = (0 : Int32) := (if_pos h1).trans (if_neg h2)
      refine hh_seti (y := (f_X5_setTies_j1_1 lp mav)) ((if_pos h1).trans (if_neg h2)) ?_
      exact J1 _ _ _ (hP) (hD) hS (lv_sub hl [0, 1, 2, 3, 4] rfl)
    · skip
      refine lv_iconst (v := 1) hx hb dX5_setTies_15 (by decide) ?_
      refine lv_goto (tgt := 20) hx hb dX5_setTies_16 (by decide) ?_
      have e10 : (f_X5_setTies_j1_1 lp mav) = (1 : Int32) := (if_pos h1).trans (if_pos h2)
      refine hh_seti (y := (f_X5_setTies_j1_1 lp mav)) ((if_pos h1).trans (if_pos h2)) ?_
      exact J1 _ _ _ (hP) (hD) hS (lv_sub hl [0, 1, 2, 3, 4] rfl)
def f_X5_setMode_j1_1 (lmo mov : Int32) : Int32 := if lmo = (3 : Int32) then (if mov = (0 : Int32) then (1 : Int32) else (0 : Int32)) else (1 : Int32)
theorem f_X5_setMode_j1_1_z (lmo mov : Int32) : narrow .boolean (.int (f_X5_setMode_j1_1 lmo mov)) = .int (f_X5_setMode_j1_1 lmo mov) := by
  unfold f_X5_setMode_j1_1
  repeat' split
  all_goals rfl
def f_X5_setMode_j2_1 (lma mov : Int32) : Int32 := if mov = (2 : Int32) then (if lma = (0 : Int32) then (0 : Int32) else (1 : Int32)) else (1 : Int32)
theorem f_X5_setMode_j2_1_z (lma mov : Int32) : narrow .boolean (.int (f_X5_setMode_j2_1 lma mov)) = .int (f_X5_setMode_j2_1 lma mov) := by
  unfold f_X5_setMode_j2_1
  repeat' split
  all_goals rfl
set_option maxHeartbeats 4000000 in
set_option maxRecDepth 100000 in
theorem c_X5_setMode (l : Launch) (dC : Nat → ClassId) (dI : Nat → Nat → Nat) (cI cJ cZ cO : ClassId) (adB adA : Nat) (bs : Int32) (lf : Nat → Option Nat) (adL adc adp ads adr : Nat) (lmo : Int32) (lha : Int64) (lfo lma lst : Int32) (lou : Int64) (kp ki kd klo khi kgu ksh khe : Int32) (ksp kig ksu kle klr : Int64) (kgo pa1 pa2 pb pdt pld : Int32) (pme pmb : Int64) (ado : Nat) (plt rpr rpe : Int32) (rsw rce : Int64) (rhe rba rup rsa rri rse : Int32) (rgr rle : Int64) (lp mov : Int32) (sz : Nat) (hl0 : ¬ lp < (0 : Int32)) (hl3 : lp < (3 : Int32)) (hlf : lf lp.toNatClampNeg = some adL) (q4 : ¬ mov < (0 : Int32)) (q5 : ¬ (2 : Int32) < mov) (q6 : ¬ (f_X5_setMode_j1_1 lmo mov) = (0 : Int32)) (q7 : ¬ (f_X5_setMode_j2_1 lma mov) = (0 : Int32)) : Met l yX5_setMode (Cond.code yX5_setMode cX5_setMode 5 (some .int) :: wAll) ({ frames := 3, cells := 0, slots := 0, locals := 63 }) (va_Pc [.ref adB, .int lp, .int mov] (gP (dC, dI) [zX5 adB adA bs, zAL cO adA 3 lf, zX1 adL adc adp ads adr lmo lha lfo lma lst lou, zX0 adc kp ki kd klo khi kgu ksh khe ksp kig ksu adp kle klr kgo, zX2 adp pa1 pa2 pb pdt pld pme pmb ado plt, zX3 adr rpr rpe rsw rce rhe rba rup rsa rri rse rgr rle] (tyG cI cJ cZ cO) sz gN)) (va_Qi (fun r (_ : Unit) => r = lmo) (fun _ t => gB (dC, dI) (va_A [zX5 adB adA bs, zAL cO adA 3 lf, zX1 adL adc adp ads adr lmo lha lfo lma lst lou, zX0 adc kp ki kd klo khi kgu ksh khe ksp kig ksu adp kle klr kgo, zX2 adp pa1 pa2 pb pdt pld pme pmb ado plt, zX3 adr rpr rpe rsw rce rhe rba rup rsa rri rse rgr rle] sz) [zX5 adB adA bs, zAL cO adA 3 lf, zX1 adL adc adp ads adr (f_X1_changeMode_lmo lmo mov) (f_X1_changeMode_lha lmo lha lou mov) lfo lma lst lou, zX0 adc kp ki kd klo khi kgu ksh khe ksp (f_X1_changeMode_kig lmo lou kp kd ksp kig pme pmb mov) ksu adp kle klr (f_X1_changeMode_kgo lmo kgo mov), zX2 adp pa1 pa2 pb pdt pld pme pmb ado plt, zX3 adr (f_X1_changeMode_rpr lmo rpr mov) rpe rsw rce rhe rba rup rsa rri rse rgr rle] (tyG cI cJ cZ cO) t) (va_A [zX5 adB adA bs, zAL cO adA 3 lf, zX1 adL adc adp ads adr lmo lha lfo lma lst lou, zX0 adc kp ki kd klo khi kgu ksh khe ksp kig ksu adp kle klr kgo, zX2 adp pa1 pa2 pb pdt pld pme pmb ado plt, zX3 adr rpr rpe rsw rce rhe rba rup rsa rri rse rgr rle] sz)) 0 0 (va_A [zX5 adB adA bs, zAL cO adA 3 lf, zX1 adL adc adp ads adr lmo lha lfo lma lst lou, zX0 adc kp ki kd klo khi kgu ksh khe ksp kig ksu adp kle klr kgo, zX2 adp pa1 pa2 pb pdt pld pme pmb ado plt, zX3 adr rpr rpe rsw rce rhe rba rup rsa rri rse rgr rle] sz) := by
  refine Met.ofW (cc := cX5_setMode) (maxL := 5) (ret := (some .int)) (by decide) rfl ?_
  intro p e s m args below meth c s₁ B hml hv
  obtain ⟨rfl, hsz, hP, hK, hD0, hG⟩ := hv
  have hx := B.exec
  have hb := B.bytes
  have hr := B.returns
  have hts := ht_of B.pre
  have hown : s.vm.findClass RX5 = some m.cls := findClass_of_methodNamed B.named
  have hlocks := B.notSynchronized
  subst hsz
  have hD := hD0.self (sz := s.heap.size)
  generalize hAe : va_A [zX5 adB adA bs, zAL cO adA 3 lf, zX1 adL adc adp ads adr lmo lha lfo lma lst lou, zX0 adc kp ki kd klo khi kgu ksh khe ksp kig ksu adp kle klr kgo, zX2 adp pa1 pa2 pb pdt pld pme pmb ado plt, zX3 adr rpr rpe rsw rce rhe rba rup rsa rri rse rgr rle] s.heap.size = A at hD ⊢
  have hA : ∀ q : Nat, s.heap.size ≤ q → A q := fun q h => by rw [← hAe]; exact Or.inr h
  have hS : va_S A s.heap s.heap [] := va_S.rf
  have hP : va_P (dC, dI) vwCl [zX5 adB adA bs, zAL cO adA 3 lf, zX1 adL adc adp ads adr lmo lha lfo lma lst lou, zX0 adc kp ki kd klo khi kgu ksh khe ksp kig ksu adp kle klr kgo, zX2 adp pa1 pa2 pb pdt pld pme pmb ado plt, zX3 adr rpr rpe rsw rce rhe rba rup rsa rri rse rgr rle] s.heap := hP
  have hl := lv_entry ([.ref adB, .int lp, .int mov]) (n := 5) (Nat.le_of_ble_eq_true rfl)
  rw [lg_entry_eq]
  generalize (lg_sl ([.ref adB, .int lp, .int mov]) ++ List.replicate (5 - (lg_sl ([.ref adB, .int lp, .int mov])).length) Slot.unset).toArray = ls at hl ⊢
  have hl : lv_has ls 5 [(0, .ref adB), (1, .int lp), (2, .int mov)] := hl
  refine hh_name (fun Q hQ => ?_)
  refine lv_aload_n hx hb dX5_setMode_0 rfl (lv_at hl 0 rfl) ?_
  refine lv_iload_n hx hb dX5_setMode_1 rfl (lv_at hl 1 rfl) ?_
  refine hh_callq (w2 := [zX5 adB adA bs, zAL cO adA 3 lf, zX1 adL adc adp ads adr lmo lha lfo lma lst lou, zX0 adc kp ki kd klo khi kgu ksh khe ksp kig ksu adp kle klr kgo, zX2 adp pa1 pa2 pb pdt pld pme pmb ado plt, zX3 adr rpr rpe rsw rce rhe rba rup rsa rri rse rgr rle]) (va_runV (As := [.int lp]) (rest := []) ⟨hx, hb, hml, hown, hts⟩ (c_X5_loopAt l dC dI cI cJ cZ cO adB adA bs lf lp adL _ hl0 hl3 hlf) (cwV 1 hts (gd_V wd_2_38 wd_2_40 wd_p_0 wd_1_1 wd_2_41) rfl rfl rfl (by decide +kernel) ⟨Nat.le_of_ble_eq_true rfl, Nat.le_of_ble_eq_true rfl⟩) (hh_pV (ci := 5) (q := (RX5, TX5, 2)) (q0 := 0) rfl rfl gN_c (fun U _ hW => gN_w hW hG) hK hP hD [0, 1] rfl rfl) rfl rfl hl.1 rfl (lv_room (Nat.le_of_ble_eq_true rfl)) dX5_setMode_2 ⟨Nat.le_of_ble_eq_true rfl, Nat.le_of_ble_eq_true rfl⟩) hP hD hS hA [0, 1] [2, 3, 4, 5] [4, 5, 0, 1, 2, 3] rfl rfl rfl (by decide) rfl rfl (fun H locs hP hD hS => ?_)
  refine hh_setv (y := .ref adL) rfl ?_
  refine lv_astore_n (lv' := [(3, .ref adL), (0, .ref adB), (1, .int lp), (2, .int mov)]) hx hb dX5_setMode_5 rfl hl (by decide) rfl (fun ls hl => ?_)
  refine lv_iload_n hx hb dX5_setMode_6 rfl (lv_at hl 3 rfl) ?_
  refine lv_iconst (v := 0) hx hb dX5_setMode_7 (by decide) ?_
  refine lv_iconst (v := 2) hx hb dX5_setMode_8 (by decide) ?_
  refine hh_callv (w2 := [zX5 adB adA bs, zAL cO adA 3 lf, zX1 adL adc adp ads adr lmo lha lfo lma lst lou, zX0 adc kp ki kd klo khi kgu ksh khe ksp kig ksu adp kle klr kgo, zX2 adp pa1 pa2 pb pdt pld pme pmb ado plt, zX3 adr rpr rpe rsw rce rhe rba rup rsa rri rse rgr rle]) (va_runS (As := [.int mov, .int (0 : Int32), .int (2 : Int32)]) (rest := []) ⟨hx, hb, hml, hown, hts⟩ (c_X5_requireWithin l dC dI cI cJ cZ cO mov (0 : Int32) (2 : Int32) _ q4 q5) (va_cwS 3 hts (gd_S wd_2_110 wd_2_111 wd_1_1 wd_2_112) rfl rfl rfl (by decide +kernel) ⟨Nat.le_of_ble_eq_true rfl, Nat.le_of_ble_eq_true rfl⟩) (hh_pS gN_c (fun U _ hW => gN_w hW hG) hK hP hD [] rfl rfl) rfl rfl hl.1 rfl (lv_room (Nat.le_of_ble_eq_true rfl)) dX5_setMode_9 ⟨Nat.le_of_ble_eq_true rfl, Nat.le_of_ble_eq_true rfl⟩) hP hD hS hA [] [0, 1, 2, 3, 4, 5] [0, 1, 2, 3, 4, 5] rfl rfl rfl (by decide) rfl rfl (fun H locs hP hD hS => ?_)
  refine lv_aload_n hx hb dX5_setMode_12 rfl (lv_at hl 0 rfl) ?_
  refine va_get (D := (dC, dI)) (ci := 1) (v := .int lmo) (C := RX1) (T := TX1) (N := 10) hx hb hts inW_X1 hown hK hP 2 rfl rfl 4 (by decide) (hts _ wd_1_222) (fun _ h9 => h9) rfl dX5_setMode_13 ?_
  refine lv_iconst (v := 3) hx hb dX5_setMode_16 (by decide) ?_
  have J1 : ∀ (H : Heap) (locs : List Loc) (ls : Array Slot), va_P (dC, dI) vwCl [zX5 adB adA bs, zAL cO adA 3 lf, zX1 adL adc adp ads adr lmo lha lfo lma lst lou, zX0 adc kp ki kd klo khi kgu ksh khe ksp kig ksu adp kle klr kgo, zX2 adp pa1 pa2 pb pdt pld pme pmb ado plt, zX3 adr rpr rpe rsw rce rhe rba rup rsa rri rse rgr rle] H → va_D A [zX5 adB adA bs, zAL cO adA 3 lf, zX1 adL adc adp ads adr lmo lha lfo lma lst lou, zX0 adc kp ki kd klo khi kgu ksh khe ksp kig ksu adp kle klr kgo, zX2 adp pa1 pa2 pb pdt pld pme pmb ado plt, zX3 adr rpr rpe rsw rce rhe rba rup rsa rri rse rgr rle] → va_S A s.heap H locs → lv_has ls 5 [(3, .ref adL), (0, .ref adB), (1, .int lp), (2, .int mov)] → W p l e (headSpec (Cond.code yX5_setMode cX5_setMode 5 (some .int) :: wAll) ({ frames := 3, cells := 0, slots := 0, locals := 63 })).room s m ([.ref adB, .int lp, .int mov] : List Value).toArray below meth c H locs 0 0 Q (F0 m 29 ls [.int (f_X5_setMode_j1_1 lmo mov)]) := by
    intro H locs ls hP hD hS hl
    refine hh_callv (w2 := [zX5 adB adA bs, zAL cO adA 3 lf, zX1 adL adc adp ads adr lmo lha lfo lma lst lou, zX0 adc kp ki kd klo khi kgu ksh khe ksp kig ksu adp kle klr kgo, zX2 adp pa1 pa2 pb pdt pld pme pmb ado plt, zX3 adr rpr rpe rsw rce rhe rba rup rsa rri rse rgr rle]) (va_runS (As := [.int (f_X5_setMode_j1_1 lmo mov)]) (rest := []) ⟨hx, hb, hml, hown, hts⟩ (c_X5_requireState l dC dI cI cJ cZ cO (f_X5_setMode_j1_1 lmo mov) _ q6) (va_cwS 1 hts (gd_S wd_2_173 wd_2_174 wd_1_1 wd_2_175) rfl rfl rfl (by decide +kernel) ⟨Nat.le_of_ble_eq_true rfl, Nat.le_of_ble_eq_true rfl⟩) (hh_pS gN_c (fun U _ hW => gN_w hW hG) hK hP hD [] rfl rfl) rfl rfl hl.1 rfl (lv_room (Nat.le_of_ble_eq_true rfl)) dX5_setMode_29 ⟨Nat.le_of_ble_eq_true rfl, Nat.le_of_ble_eq_true rfl⟩) hP hD hS hA [] [0, 1, 2, 3, 4, 5] [0, 1, 2, 3, 4, 5] rfl rfl rfl (by decide) rfl rfl (fun H locs hP hD hS => ?_)
    refine lv_iload_n hx hb dX5_setMode_32 rfl (lv_at hl 3 rfl) ?_
    refine lv_iconst (v := 2) hx hb dX5_setMode_33 (by decide) ?_
    have J2 : ∀ (H : Heap) (locs : List Loc) (ls : Array Slot), va_P (dC, dI) vwCl [zX5 adB adA bs, zAL cO adA 3 lf, zX1 adL adc adp ads adr lmo lha lfo lma lst lou, zX0 adc kp ki kd klo khi kgu ksh khe ksp kig ksu adp kle klr kgo, zX2 adp pa1 pa2 pb pdt pld pme pmb ado plt, zX3 adr rpr rpe rsw rce rhe rba rup rsa rri rse rgr rle] H → va_D A [zX5 adB adA bs, zAL cO adA 3 lf, zX1 adL adc adp ads adr lmo lha lfo lma lst lou, zX0 adc kp ki kd klo khi kgu ksh khe ksp kig ksu adp kle klr kgo, zX2 adp pa1 pa2 pb pdt pld pme pmb ado plt, zX3 adr rpr rpe rsw rce rhe rba rup rsa rri rse rgr rle] → va_S A s.heap H locs → lv_has ls 5 [(3, .ref adL), (0, .ref adB), (1, .int lp), (2, .int mov)] → W p l e (headSpec (Cond.code yX5_setMode cX5_setMode 5 (some .int) :: wAll) ({ frames := 3, cells := 0, slots := 0, locals := 63 })).room s m ([.ref adB, .int lp, .int mov] : List Value).toArray below meth c H locs 0 0 Q (F0 m 49 ls [.int (f_X5_setMode_j2_1 lma mov)]) := by
      intro H locs ls hP hD hS hl
      refine hh_callv (w2 := [zX5 adB adA bs, zAL cO adA 3 lf, zX1 adL adc adp ads adr lmo lha lfo lma lst lou, zX0 adc kp ki kd klo khi kgu ksh khe ksp kig ksu adp kle klr kgo, zX2 adp pa1 pa2 pb pdt pld pme pmb ado plt, zX3 adr rpr rpe rsw rce rhe rba rup rsa rri rse rgr rle]) (va_runS (As := [.int (f_X5_setMode_j2_1 lma mov)]) (rest := []) ⟨hx, hb, hml, hown, hts⟩ (c_X5_requireState l dC dI cI cJ cZ cO (f_X5_setMode_j2_1 lma mov) _ q7) (va_cwS 1 hts (gd_S wd_2_173 wd_2_174 wd_1_1 wd_2_175) rfl rfl rfl (by decide +kernel) ⟨Nat.le_of_ble_eq_true rfl, Nat.le_of_ble_eq_true rfl⟩) (hh_pS gN_c (fun U _ hW => gN_w hW hG) hK hP hD [] rfl rfl) rfl rfl hl.1 rfl (lv_room (Nat.le_of_ble_eq_true rfl)) dX5_setMode_49 ⟨Nat.le_of_ble_eq_true rfl, Nat.le_of_ble_eq_true rfl⟩) hP hD hS hA [] [0, 1, 2, 3, 4, 5] [0, 1, 2, 3, 4, 5] rfl rfl rfl (by decide) rfl rfl (fun H locs hP hD hS => ?_)
      refine lv_aload_n hx hb dX5_setMode_52 rfl (lv_at hl 0 rfl) ?_
      refine va_get (D := (dC, dI)) (ci := 1) (v := .int lmo) (C := RX1) (T := TX1) (N := 10) hx hb hts inW_X1 hown hK hP 2 rfl rfl 4 (by decide) (hts _ wd_1_222) (fun _ h9 => h9) rfl dX5_setMode_53 ?_
      refine lv_istore (lv' := [(4, .int lmo), (3, .ref adL), (0, .ref adB), (1, .int lp), (2, .int mov)]) hx hb dX5_setMode_56 hl (by decide) rfl (fun ls hl => ?_)
      refine lv_aload_n hx hb dX5_setMode_58 rfl (lv_at hl 1 rfl) ?_
      refine lv_iload_n hx hb dX5_setMode_59 rfl (lv_at hl 4 rfl) ?_
      refine hh_callv (w2 := [zX5 adB adA bs, zAL cO adA 3 lf, zX1 adL adc adp ads adr (f_X1_changeMode_lmo lmo mov) (f_X1_changeMode_lha lmo lha lou mov) lfo lma lst lou, zX0 adc kp ki kd klo khi kgu ksh khe ksp (f_X1_changeMode_kig lmo lou kp kd ksp kig pme pmb mov) ksu adp kle klr (f_X1_changeMode_kgo lmo kgo mov), zX2 adp pa1 pa2 pb pdt pld pme pmb ado plt, zX3 adr (f_X1_changeMode_rpr lmo rpr mov) rpe rsw rce rhe rba rup rsa rri rse rgr rle]) (va_runV (As := [.int mov]) (rest := []) ⟨hx, hb, hml, hown, hts⟩ (c_X1_changeMode l dC dI cI cJ cZ cO adL adc adp ads adr lmo lha lfo lma lst lou kp ki kd klo khi kgu ksh khe ksp kig ksu kle klr kgo pa1 pa2 pb pdt pld pme pmb ado plt rpr rpe rsw rce rhe rba rup rsa rri rse rgr rle mov _) (cwV 1 hts (gd_V wd_3_17 wd_3_18 wd_3_19 wd_1_2 wd_3_20) rfl rfl rfl (by decide +kernel) ⟨Nat.le_of_ble_eq_true rfl, Nat.le_of_ble_eq_true rfl⟩) (hh_pV (ci := 1) (q := (RX1, TX1, 10)) (q0 := 2) rfl rfl gN_c (fun U _ hW => gN_w hW hG) hK hP hD [2, 3, 4, 5] rfl rfl) rfl rfl hl.1 rfl (lv_room (Nat.le_of_ble_eq_true rfl)) dX5_setMode_60 ⟨Nat.le_of_ble_eq_true rfl, Nat.le_of_ble_eq_true rfl⟩) hP hD hS hA [2, 3, 4, 5] [0, 1] [0, 1, 2, 3, 4, 5] rfl rfl rfl (by decide) rfl rfl (fun H locs hP hD hS => ?_)
      refine lv_iload hx hb dX5_setMode_63 (lv_at hl 0 rfl) ?_
      exact hh_reti hQ (rfl) hx hb hr hlocks hP hK hD hS dX5_setMode_65
    refine lv_icmp_ne (tgt := 44) hx hb dX5_setMode_34 (by decide) (fun h3 => ?_) (fun h3 => ?_)
    · skip
      refine lv_iconst (v := 1) hx hb dX5_setMode_44 (by decide) ?_
      refine lv_goto (tgt := 49) hx hb dX5_setMode_45 (by decide) ?_
      have e5 : (f_X5_setMode_j2_1 lma mov) = (1 : Int32) := if_neg h3
      refine hh_seti (y := (f_X5_setMode_j2_1 lma mov)) (if_neg h3) ?_
      exact J2 _ _ _ (hP) (hD) hS (lv_sub hl [0, 1, 2, 3] rfl)
    · skip
      refine lv_aload_n hx hb dX5_setMode_37 rfl (lv_at hl 0 rfl) ?_
      refine va_get (D := (dC, dI)) (ci := 1) (v := .int lma) (C := RX1) (T := TX1) (N := 10) hx hb hts inW_X1 hown hK hP 2 rfl rfl 7 (by decide) (hts _ wd_1_228) (fun _ h9 => h9) rfl dX5_setMode_38 ?_
      refine lv_if_eq (tgt := 48) hx hb dX5_setMode_41 (by decide) (fun h4 => ?_) (fun h4 => ?_)
      · skip
        refine lv_iconst (v := 0) hx hb dX5_setMode_48 (by decide) ?_
        have e6 : (f_X5_setMode_j2_1 lma mov) = (0 : Int32) := (if_pos h3).trans (if_pos h4)
        refine hh_seti (y := (f_X5_setMode_j2_1 lma mov)) ((if_pos h3).trans (if_pos h4)) ?_
        exact J2 _ _ _ (hP) (hD) hS (lv_sub hl [0, 1, 2, 3] rfl)
      · skip
        refine lv_iconst (v := 1) hx hb dX5_setMode_44 (by decide) ?_
        refine lv_goto (tgt := 49) hx hb dX5_setMode_45 (by decide) ?_
        have e7 : (f_X5_setMode_j2_1 lma mov) = (1 : Int32) := (if_pos h3).trans (if_neg h4)
        refine hh_seti (y := (f_X5_setMode_j2_1 lma mov)) ((if_pos h3).trans (if_neg h4)) ?_
        exact J2 _ _ _ (hP) (hD) hS (lv_sub hl [0, 1, 2, 3] rfl)
  refine lv_icmp_ne (tgt := 24) hx hb dX5_setMode_17 (by decide) (fun h1 => ?_) (fun h1 => ?_)
  · skip
    refine lv_iconst (v := 1) hx hb dX5_setMode_24 (by decide) ?_
    refine lv_goto (tgt := 29) hx hb dX5_setMode_25 (by decide) ?_
    have e8 : (f_X5_setMode_j1_1 lmo mov) = (1 : Int32) := if_neg h1
    refine hh_seti (y := (f_X5_setMode_j1_1 lmo mov)) (if_neg h1) ?_
    exact J1 _ _ _ (hP) (hD) hS (lv_sub hl [0, 1, 2, 3] rfl)
  · skip
    refine lv_iload_n hx hb dX5_setMode_20 rfl (lv_at hl 3 rfl) ?_
    refine lv_if_ne (tgt := 28) hx hb dX5_setMode_21 (by decide) (fun h2 => ?_) (fun h2 => ?_)
    · skip
      refine lv_iconst (v := 0) hx hb dX5_setMode_28 (by decide) ?_
      have e9 : (f_X5_setMode_j1_1 lmo mov) = (0 : Int32) := (if_pos h1).trans (if_neg h2)
      refine hh_seti (y := (f_X5_setMode_j1_1 lmo mov)) ((if_pos h1).trans (if_neg h2)) ?_
      exact J1 _ _ _ (hP) (hD) hS (lv_sub hl [0, 1, 2, 3] rfl)
    · skip
      refine lv_iconst (v := 1) hx hb dX5_setMode_24 (by decide) ?_
      refine lv_goto (tgt := 29) hx hb dX5_setMode_25 (by decide) ?_
      have e10 : (f_X5_setMode_j1_1 lmo mov) = (1 : Int32) := (if_pos h1).trans (if_pos h2)
      refine hh_seti (y := (f_X5_setMode_j1_1 lmo mov)) ((if_pos h1).trans (if_pos h2)) ?_
      exact J1 _ _ _ (hP) (hD) hS (lv_sub hl [0, 1, 2, 3] rfl)
set_option maxHeartbeats 4000000 in
set_option maxRecDepth 100000 in
theorem c_X5_measure (l : Launch) (dC : Nat → ClassId) (dI : Nat → Nat → Nat) (cI cJ cZ cO : ClassId) (adB adA : Nat) (bs : Int32) (lf : Nat → Option Nat) (adL adc adp ads adr : Nat) (lmo : Int32) (lha : Int64) (lfo lma lst : Int32) (lou : Int64) (pa1 pa2 pb pdt pld : Int32) (pme pmb : Int64) (ado : Nat) (plt lp : Int32) (sz : Nat) (hl0 : ¬ lp < (0 : Int32)) (hl3 : lp < (3 : Int32)) (hlf : lf lp.toNatClampNeg = some adL) : Met l yX5_measure (Cond.code yX5_measure cX5_measure 2 (some .long) :: wAll) ({ frames := 1, cells := 0, slots := 0, locals := 21 }) (va_Pc [.ref adB, .int lp] (gP (dC, dI) [zX5 adB adA bs, zAL cO adA 3 lf, zX1 adL adc adp ads adr lmo lha lfo lma lst lou, zX2 adp pa1 pa2 pb pdt pld pme pmb ado plt] (tyG cI cJ cZ cO) sz gN)) (va_Ql (fun r (_ : Unit) => r = pme) (fun _ t => gB (dC, dI) (va_A [zX5 adB adA bs, zAL cO adA 3 lf, zX1 adL adc adp ads adr lmo lha lfo lma lst lou, zX2 adp pa1 pa2 pb pdt pld pme pmb ado plt] sz) [zX5 adB adA bs, zAL cO adA 3 lf, zX1 adL adc adp ads adr lmo lha lfo lma lst lou, zX2 adp pa1 pa2 pb pdt pld pme pmb ado plt] (tyG cI cJ cZ cO) t) (va_A [zX5 adB adA bs, zAL cO adA 3 lf, zX1 adL adc adp ads adr lmo lha lfo lma lst lou, zX2 adp pa1 pa2 pb pdt pld pme pmb ado plt] sz)) 0 0 (va_A [zX5 adB adA bs, zAL cO adA 3 lf, zX1 adL adc adp ads adr lmo lha lfo lma lst lou, zX2 adp pa1 pa2 pb pdt pld pme pmb ado plt] sz) := by
  refine Met.ofW (cc := cX5_measure) (maxL := 2) (ret := (some .long)) (by decide) rfl ?_
  intro p e s m args below meth c s₁ B hml hv
  obtain ⟨rfl, hsz, hP, hK, hD0, hG⟩ := hv
  have hx := B.exec
  have hb := B.bytes
  have hr := B.returns
  have hts := ht_of B.pre
  have hown : s.vm.findClass RX5 = some m.cls := findClass_of_methodNamed B.named
  have hlocks := B.notSynchronized
  subst hsz
  have hD := hD0.self (sz := s.heap.size)
  generalize hAe : va_A [zX5 adB adA bs, zAL cO adA 3 lf, zX1 adL adc adp ads adr lmo lha lfo lma lst lou, zX2 adp pa1 pa2 pb pdt pld pme pmb ado plt] s.heap.size = A at hD ⊢
  have hA : ∀ q : Nat, s.heap.size ≤ q → A q := fun q h => by rw [← hAe]; exact Or.inr h
  have hS : va_S A s.heap s.heap [] := va_S.rf
  have hP : va_P (dC, dI) vwCl [zX5 adB adA bs, zAL cO adA 3 lf, zX1 adL adc adp ads adr lmo lha lfo lma lst lou, zX2 adp pa1 pa2 pb pdt pld pme pmb ado plt] s.heap := hP
  have hl := lv_entry ([.ref adB, .int lp]) (n := 2) (Nat.le_of_ble_eq_true rfl)
  rw [lg_entry_eq]
  generalize (lg_sl ([.ref adB, .int lp]) ++ List.replicate (2 - (lg_sl ([.ref adB, .int lp])).length) Slot.unset).toArray = ls at hl ⊢
  have hl : lv_has ls 2 [(0, .ref adB), (1, .int lp)] := hl
  refine hh_name (fun Q hQ => ?_)
  refine lv_aload_n hx hb dX5_measure_0 rfl (lv_at hl 0 rfl) ?_
  refine lv_iload_n hx hb dX5_measure_1 rfl (lv_at hl 1 rfl) ?_
  refine hh_callq (w2 := [zX5 adB adA bs, zAL cO adA 3 lf, zX1 adL adc adp ads adr lmo lha lfo lma lst lou, zX2 adp pa1 pa2 pb pdt pld pme pmb ado plt]) (va_runV (As := [.int lp]) (rest := []) ⟨hx, hb, hml, hown, hts⟩ (c_X5_loopAt l dC dI cI cJ cZ cO adB adA bs lf lp adL _ hl0 hl3 hlf) (cwV 1 hts (gd_V wd_2_38 wd_2_40 wd_p_0 wd_1_1 wd_2_41) rfl rfl rfl (by decide +kernel) ⟨Nat.le_of_ble_eq_true rfl, Nat.le_of_ble_eq_true rfl⟩) (hh_pV (ci := 5) (q := (RX5, TX5, 2)) (q0 := 0) rfl rfl gN_c (fun U _ hW => gN_w hW hG) hK hP hD [0, 1] rfl rfl) rfl rfl hl.1 rfl (lv_room (Nat.le_of_ble_eq_true rfl)) dX5_measure_2 ⟨Nat.le_of_ble_eq_true rfl, Nat.le_of_ble_eq_true rfl⟩) hP hD hS hA [0, 1] [2, 3] [2, 3, 0, 1] rfl rfl rfl (by decide) rfl rfl (fun H locs hP hD hS => ?_)
  refine hh_setv (y := .ref adL) rfl ?_
  refine va_get (D := (dC, dI)) (ci := 1) (v := .ref adp) (C := RX1) (T := TX1) (N := 10) hx hb hts inW_X1 hown hK hP 2 rfl rfl 1 (by decide) (hts _ wd_1_216) (fun _ h9 => h9) rfl dX5_measure_5 ?_
  refine va_get (D := (dC, dI)) (ci := 2) (v := .long pme) (C := RX2) (T := TX2) (N := 9) hx hb hts inW_X2 hown hK hP 3 rfl rfl 5 (by decide) (hts _ wd_1_58) (fun _ h9 => h9) rfl dX5_measure_8 ?_
  exact hh_retl hQ (rfl) hx hb hr hlocks hP hK hD hS dX5_measure_11
set_option maxHeartbeats 4000000 in
set_option maxRecDepth 100000 in
theorem c_X5_output (l : Launch) (dC : Nat → ClassId) (dI : Nat → Nat → Nat) (cI cJ cZ cO : ClassId) (adB adA : Nat) (bs : Int32) (lf : Nat → Option Nat) (adL adc adp ads adr : Nat) (lmo : Int32) (lha : Int64) (lfo lma lst : Int32) (lou : Int64) (lp : Int32) (sz : Nat) (hl0 : ¬ lp < (0 : Int32)) (hl3 : lp < (3 : Int32)) (hlf : lf lp.toNatClampNeg = some adL) : Met l yX5_output (Cond.code yX5_output cX5_output 2 (some .long) :: wAll) ({ frames := 1, cells := 0, slots := 0, locals := 21 }) (va_Pc [.ref adB, .int lp] (gP (dC, dI) [zX5 adB adA bs, zAL cO adA 3 lf, zX1 adL adc adp ads adr lmo lha lfo lma lst lou] (tyG cI cJ cZ cO) sz gN)) (va_Ql (fun r (_ : Unit) => r = lou) (fun _ t => gB (dC, dI) (va_A [zX5 adB adA bs, zAL cO adA 3 lf, zX1 adL adc adp ads adr lmo lha lfo lma lst lou] sz) [zX5 adB adA bs, zAL cO adA 3 lf, zX1 adL adc adp ads adr lmo lha lfo lma lst lou] (tyG cI cJ cZ cO) t) (va_A [zX5 adB adA bs, zAL cO adA 3 lf, zX1 adL adc adp ads adr lmo lha lfo lma lst lou] sz)) 0 0 (va_A [zX5 adB adA bs, zAL cO adA 3 lf, zX1 adL adc adp ads adr lmo lha lfo lma lst lou] sz) := by
  refine Met.ofW (cc := cX5_output) (maxL := 2) (ret := (some .long)) (by decide) rfl ?_
  intro p e s m args below meth c s₁ B hml hv
  obtain ⟨rfl, hsz, hP, hK, hD0, hG⟩ := hv
  have hx := B.exec
  have hb := B.bytes
  have hr := B.returns
  have hts := ht_of B.pre
  have hown : s.vm.findClass RX5 = some m.cls := findClass_of_methodNamed B.named
  have hlocks := B.notSynchronized
  subst hsz
  have hD := hD0.self (sz := s.heap.size)
  generalize hAe : va_A [zX5 adB adA bs, zAL cO adA 3 lf, zX1 adL adc adp ads adr lmo lha lfo lma lst lou] s.heap.size = A at hD ⊢
  have hA : ∀ q : Nat, s.heap.size ≤ q → A q := fun q h => by rw [← hAe]; exact Or.inr h
  have hS : va_S A s.heap s.heap [] := va_S.rf
  have hP : va_P (dC, dI) vwCl [zX5 adB adA bs, zAL cO adA 3 lf, zX1 adL adc adp ads adr lmo lha lfo lma lst lou] s.heap := hP
  have hl := lv_entry ([.ref adB, .int lp]) (n := 2) (Nat.le_of_ble_eq_true rfl)
  rw [lg_entry_eq]
  generalize (lg_sl ([.ref adB, .int lp]) ++ List.replicate (2 - (lg_sl ([.ref adB, .int lp])).length) Slot.unset).toArray = ls at hl ⊢
  have hl : lv_has ls 2 [(0, .ref adB), (1, .int lp)] := hl
  refine hh_name (fun Q hQ => ?_)
  refine lv_aload_n hx hb dX5_output_0 rfl (lv_at hl 0 rfl) ?_
  refine lv_iload_n hx hb dX5_output_1 rfl (lv_at hl 1 rfl) ?_
  refine hh_callq (w2 := [zX5 adB adA bs, zAL cO adA 3 lf, zX1 adL adc adp ads adr lmo lha lfo lma lst lou]) (va_runV (As := [.int lp]) (rest := []) ⟨hx, hb, hml, hown, hts⟩ (c_X5_loopAt l dC dI cI cJ cZ cO adB adA bs lf lp adL _ hl0 hl3 hlf) (cwV 1 hts (gd_V wd_2_38 wd_2_40 wd_p_0 wd_1_1 wd_2_41) rfl rfl rfl (by decide +kernel) ⟨Nat.le_of_ble_eq_true rfl, Nat.le_of_ble_eq_true rfl⟩) (hh_pV (ci := 5) (q := (RX5, TX5, 2)) (q0 := 0) rfl rfl gN_c (fun U _ hW => gN_w hW hG) hK hP hD [0, 1] rfl rfl) rfl rfl hl.1 rfl (lv_room (Nat.le_of_ble_eq_true rfl)) dX5_output_2 ⟨Nat.le_of_ble_eq_true rfl, Nat.le_of_ble_eq_true rfl⟩) hP hD hS hA [0, 1] [2] [1, 2, 0] rfl rfl rfl (by decide) rfl rfl (fun H locs hP hD hS => ?_)
  refine hh_setv (y := .ref adL) rfl ?_
  refine va_get (D := (dC, dI)) (ci := 1) (v := .long lou) (C := RX1) (T := TX1) (N := 10) hx hb hts inW_X1 hown hK hP 2 rfl rfl 9 (by decide) (hts _ wd_1_232) (fun _ h9 => h9) rfl dX5_output_5 ?_
  exact hh_retl hQ (rfl) hx hb hr hlocks hP hK hD hS dX5_output_8
def f_X5_outputByIncrements_r (ksu : Int64) : Int64 := (f_J9_floorDiv_f86c9_r ksu (1000 : Int64))
set_option maxHeartbeats 4000000 in
set_option maxRecDepth 100000 in
theorem c_X5_outputByIncrements (l : Launch) (dC : Nat → ClassId) (dI : Nat → Nat → Nat) (cI cJ cZ cO : ClassId) (adB adA : Nat) (bs : Int32) (lf : Nat → Option Nat) (adL adc adp ads adr : Nat) (lmo : Int32) (lha : Int64) (lfo lma lst : Int32) (lou : Int64) (kp ki kd klo khi kgu ksh khe : Int32) (ksp kig ksu kle klr : Int64) (kgo lp : Int32) (sz : Nat) (hl0 : ¬ lp < (0 : Int32)) (hl3 : lp < (3 : Int32)) (hlf : lf lp.toNatClampNeg = some adL) : Met l yX5_outputByIncrements (Cond.code yX5_outputByIncrements cX5_outputByIncrements 2 (some .long) :: wAll) ({ frames := 1, cells := 0, slots := 0, locals := 25 }) (va_Pc [.ref adB, .int lp] (gP (dC, dI) [zX5 adB adA bs, zAL cO adA 3 lf, zX1 adL adc adp ads adr lmo lha lfo lma lst lou, zX0 adc kp ki kd klo khi kgu ksh khe ksp kig ksu adp kle klr kgo] (tyG cI cJ cZ cO) sz gN)) (va_Ql (fun r (_ : Unit) => r = (f_X5_outputByIncrements_r ksu)) (fun _ t => gB (dC, dI) (va_A [zX5 adB adA bs, zAL cO adA 3 lf, zX1 adL adc adp ads adr lmo lha lfo lma lst lou, zX0 adc kp ki kd klo khi kgu ksh khe ksp kig ksu adp kle klr kgo] sz) [zX5 adB adA bs, zAL cO adA 3 lf, zX1 adL adc adp ads adr lmo lha lfo lma lst lou, zX0 adc kp ki kd klo khi kgu ksh khe ksp kig ksu adp kle klr kgo] (tyG cI cJ cZ cO) t) (va_A [zX5 adB adA bs, zAL cO adA 3 lf, zX1 adL adc adp ads adr lmo lha lfo lma lst lou, zX0 adc kp ki kd klo khi kgu ksh khe ksp kig ksu adp kle klr kgo] sz)) 0 0 (va_A [zX5 adB adA bs, zAL cO adA 3 lf, zX1 adL adc adp ads adr lmo lha lfo lma lst lou, zX0 adc kp ki kd klo khi kgu ksh khe ksp kig ksu adp kle klr kgo] sz) := by
  refine Met.ofW (cc := cX5_outputByIncrements) (maxL := 2) (ret := (some .long)) (by decide) rfl ?_
  intro p e s m args below meth c s₁ B hml hv
  obtain ⟨rfl, hsz, hP, hK, hD0, hG⟩ := hv
  have hx := B.exec
  have hb := B.bytes
  have hr := B.returns
  have hts := ht_of B.pre
  have hown : s.vm.findClass RX5 = some m.cls := findClass_of_methodNamed B.named
  have hlocks := B.notSynchronized
  subst hsz
  have hD := hD0.self (sz := s.heap.size)
  generalize hAe : va_A [zX5 adB adA bs, zAL cO adA 3 lf, zX1 adL adc adp ads adr lmo lha lfo lma lst lou, zX0 adc kp ki kd klo khi kgu ksh khe ksp kig ksu adp kle klr kgo] s.heap.size = A at hD ⊢
  have hA : ∀ q : Nat, s.heap.size ≤ q → A q := fun q h => by rw [← hAe]; exact Or.inr h
  have hS : va_S A s.heap s.heap [] := va_S.rf
  have hP : va_P (dC, dI) vwCl [zX5 adB adA bs, zAL cO adA 3 lf, zX1 adL adc adp ads adr lmo lha lfo lma lst lou, zX0 adc kp ki kd klo khi kgu ksh khe ksp kig ksu adp kle klr kgo] s.heap := hP
  have hl := lv_entry ([.ref adB, .int lp]) (n := 2) (Nat.le_of_ble_eq_true rfl)
  rw [lg_entry_eq]
  generalize (lg_sl ([.ref adB, .int lp]) ++ List.replicate (2 - (lg_sl ([.ref adB, .int lp])).length) Slot.unset).toArray = ls at hl ⊢
  have hl : lv_has ls 2 [(0, .ref adB), (1, .int lp)] := hl
  refine hh_name (fun Q hQ => ?_)
  refine lv_aload_n hx hb dX5_outputByIncrements_0 rfl (lv_at hl 0 rfl) ?_
  refine lv_iload_n hx hb dX5_outputByIncrements_1 rfl (lv_at hl 1 rfl) ?_
  refine hh_callq (w2 := [zX5 adB adA bs, zAL cO adA 3 lf, zX1 adL adc adp ads adr lmo lha lfo lma lst lou, zX0 adc kp ki kd klo khi kgu ksh khe ksp kig ksu adp kle klr kgo]) (va_runV (As := [.int lp]) (rest := []) ⟨hx, hb, hml, hown, hts⟩ (c_X5_loopAt l dC dI cI cJ cZ cO adB adA bs lf lp adL _ hl0 hl3 hlf) (cwV 1 hts (gd_V wd_2_38 wd_2_40 wd_p_0 wd_1_1 wd_2_41) rfl rfl rfl (by decide +kernel) ⟨Nat.le_of_ble_eq_true rfl, Nat.le_of_ble_eq_true rfl⟩) (hh_pV (ci := 5) (q := (RX5, TX5, 2)) (q0 := 0) rfl rfl gN_c (fun U _ hW => gN_w hW hG) hK hP hD [0, 1] rfl rfl) rfl rfl hl.1 rfl (lv_room (Nat.le_of_ble_eq_true rfl)) dX5_outputByIncrements_2 ⟨Nat.le_of_ble_eq_true rfl, Nat.le_of_ble_eq_true rfl⟩) hP hD hS hA [0, 1] [2, 3] [2, 3, 0, 1] rfl rfl rfl (by decide) rfl rfl (fun H locs hP hD hS => ?_)
  refine hh_setv (y := .ref adL) rfl ?_
  refine va_get (D := (dC, dI)) (ci := 1) (v := .ref adc) (C := RX1) (T := TX1) (N := 10) hx hb hts inW_X1 hown hK hP 2 rfl rfl 0 (by decide) (hts _ wd_1_214) (fun _ h9 => h9) rfl dX5_outputByIncrements_5 ?_
  refine va_get (D := (dC, dI)) (ci := 0) (v := .long ksu) (C := RX0) (T := TX0) (N := 15) hx hb hts inW_X0 hown hK hP 3 rfl rfl 10 (by decide) (hts _ wd_1_105) (fun _ h9 => h9) rfl dX5_outputByIncrements_8 ?_
  refine lv_ldc2 (v := 1000) hx hb hown (hts _ wd_4_23) dX5_outputByIncrements_11 ?_
  refine hh_calll (w2 := [zX5 adB adA bs, zAL cO adA 3 lf, zX1 adL adc adp ads adr lmo lha lfo lma lst lou, zX0 adc kp ki kd klo khi kgu ksh khe ksp kig ksu adp kle klr kgo]) (va_runS (As := [.long ksu, .long (1000 : Int64)]) (rest := []) ⟨hx, hb, hml, hown, hts⟩ (c_J9_floorDiv_f86c9 l dC dI cI cJ cZ cO ksu (1000 : Int64) _ (by decide)) (va_cwS 2 hts (gd_S wd_4_24 wd_3_142 wd_1_13 wd_3_143) rfl rfl rfl (by decide +kernel) ⟨Nat.le_of_ble_eq_true rfl, Nat.le_of_ble_eq_true rfl⟩) (hh_pS gU_c (fun _ _ _ => trivial) hK hP hD [] rfl rfl) rfl rfl hl.1 rfl (lv_room (Nat.le_of_ble_eq_true rfl)) dX5_outputByIncrements_14 ⟨Nat.le_of_ble_eq_true rfl, Nat.le_of_ble_eq_true rfl⟩) hP hD hS hA [] [0, 1, 2, 3] [0, 1, 2, 3] rfl rfl rfl (by decide) rfl rfl (fun H locs hP hD hS => ?_)
  exact hh_retl hQ (rfl) hx hb hr hlocks hP hK hD hS dX5_outputByIncrements_17
set_option maxHeartbeats 4000000 in
set_option maxRecDepth 100000 in
theorem c_X5_setpoint (l : Launch) (dC : Nat → ClassId) (dI : Nat → Nat → Nat) (cI cJ cZ cO : ClassId) (adB adA : Nat) (bs : Int32) (lf : Nat → Option Nat) (adL adc adp ads adr : Nat) (lmo : Int32) (lha : Int64) (lfo lma lst : Int32) (lou : Int64) (kp ki kd klo khi kgu ksh khe : Int32) (ksp kig ksu kle klr : Int64) (kgo lp : Int32) (sz : Nat) (hl0 : ¬ lp < (0 : Int32)) (hl3 : lp < (3 : Int32)) (hlf : lf lp.toNatClampNeg = some adL) : Met l yX5_setpoint (Cond.code yX5_setpoint cX5_setpoint 2 (some .long) :: wAll) ({ frames := 1, cells := 0, slots := 0, locals := 21 }) (va_Pc [.ref adB, .int lp] (gP (dC, dI) [zX5 adB adA bs, zAL cO adA 3 lf, zX1 adL adc adp ads adr lmo lha lfo lma lst lou, zX0 adc kp ki kd klo khi kgu ksh khe ksp kig ksu adp kle klr kgo] (tyG cI cJ cZ cO) sz gN)) (va_Ql (fun r (_ : Unit) => r = ksp) (fun _ t => gB (dC, dI) (va_A [zX5 adB adA bs, zAL cO adA 3 lf, zX1 adL adc adp ads adr lmo lha lfo lma lst lou, zX0 adc kp ki kd klo khi kgu ksh khe ksp kig ksu adp kle klr kgo] sz) [zX5 adB adA bs, zAL cO adA 3 lf, zX1 adL adc adp ads adr lmo lha lfo lma lst lou, zX0 adc kp ki kd klo khi kgu ksh khe ksp kig ksu adp kle klr kgo] (tyG cI cJ cZ cO) t) (va_A [zX5 adB adA bs, zAL cO adA 3 lf, zX1 adL adc adp ads adr lmo lha lfo lma lst lou, zX0 adc kp ki kd klo khi kgu ksh khe ksp kig ksu adp kle klr kgo] sz)) 0 0 (va_A [zX5 adB adA bs, zAL cO adA 3 lf, zX1 adL adc adp ads adr lmo lha lfo lma lst lou, zX0 adc kp ki kd klo khi kgu ksh khe ksp kig ksu adp kle klr kgo] sz) := by
  refine Met.ofW (cc := cX5_setpoint) (maxL := 2) (ret := (some .long)) (by decide) rfl ?_
  intro p e s m args below meth c s₁ B hml hv
  obtain ⟨rfl, hsz, hP, hK, hD0, hG⟩ := hv
  have hx := B.exec
  have hb := B.bytes
  have hr := B.returns
  have hts := ht_of B.pre
  have hown : s.vm.findClass RX5 = some m.cls := findClass_of_methodNamed B.named
  have hlocks := B.notSynchronized
  subst hsz
  have hD := hD0.self (sz := s.heap.size)
  generalize hAe : va_A [zX5 adB adA bs, zAL cO adA 3 lf, zX1 adL adc adp ads adr lmo lha lfo lma lst lou, zX0 adc kp ki kd klo khi kgu ksh khe ksp kig ksu adp kle klr kgo] s.heap.size = A at hD ⊢
  have hA : ∀ q : Nat, s.heap.size ≤ q → A q := fun q h => by rw [← hAe]; exact Or.inr h
  have hS : va_S A s.heap s.heap [] := va_S.rf
  have hP : va_P (dC, dI) vwCl [zX5 adB adA bs, zAL cO adA 3 lf, zX1 adL adc adp ads adr lmo lha lfo lma lst lou, zX0 adc kp ki kd klo khi kgu ksh khe ksp kig ksu adp kle klr kgo] s.heap := hP
  have hl := lv_entry ([.ref adB, .int lp]) (n := 2) (Nat.le_of_ble_eq_true rfl)
  rw [lg_entry_eq]
  generalize (lg_sl ([.ref adB, .int lp]) ++ List.replicate (2 - (lg_sl ([.ref adB, .int lp])).length) Slot.unset).toArray = ls at hl ⊢
  have hl : lv_has ls 2 [(0, .ref adB), (1, .int lp)] := hl
  refine hh_name (fun Q hQ => ?_)
  refine lv_aload_n hx hb dX5_setpoint_0 rfl (lv_at hl 0 rfl) ?_
  refine lv_iload_n hx hb dX5_setpoint_1 rfl (lv_at hl 1 rfl) ?_
  refine hh_callq (w2 := [zX5 adB adA bs, zAL cO adA 3 lf, zX1 adL adc adp ads adr lmo lha lfo lma lst lou, zX0 adc kp ki kd klo khi kgu ksh khe ksp kig ksu adp kle klr kgo]) (va_runV (As := [.int lp]) (rest := []) ⟨hx, hb, hml, hown, hts⟩ (c_X5_loopAt l dC dI cI cJ cZ cO adB adA bs lf lp adL _ hl0 hl3 hlf) (cwV 1 hts (gd_V wd_2_38 wd_2_40 wd_p_0 wd_1_1 wd_2_41) rfl rfl rfl (by decide +kernel) ⟨Nat.le_of_ble_eq_true rfl, Nat.le_of_ble_eq_true rfl⟩) (hh_pV (ci := 5) (q := (RX5, TX5, 2)) (q0 := 0) rfl rfl gN_c (fun U _ hW => gN_w hW hG) hK hP hD [0, 1] rfl rfl) rfl rfl hl.1 rfl (lv_room (Nat.le_of_ble_eq_true rfl)) dX5_setpoint_2 ⟨Nat.le_of_ble_eq_true rfl, Nat.le_of_ble_eq_true rfl⟩) hP hD hS hA [0, 1] [2, 3] [2, 3, 0, 1] rfl rfl rfl (by decide) rfl rfl (fun H locs hP hD hS => ?_)
  refine hh_setv (y := .ref adL) rfl ?_
  refine va_get (D := (dC, dI)) (ci := 1) (v := .ref adc) (C := RX1) (T := TX1) (N := 10) hx hb hts inW_X1 hown hK hP 2 rfl rfl 0 (by decide) (hts _ wd_1_214) (fun _ h9 => h9) rfl dX5_setpoint_5 ?_
  refine va_get (D := (dC, dI)) (ci := 0) (v := .long ksp) (C := RX0) (T := TX0) (N := 15) hx hb hts inW_X0 hown hK hP 3 rfl rfl 8 (by decide) (hts _ wd_1_101) (fun _ h9 => h9) rfl dX5_setpoint_8 ?_
  exact hh_retl hQ (rfl) hx hb hr hlocks hP hK hD hS dX5_setpoint_11
set_option maxHeartbeats 4000000 in
set_option maxRecDepth 100000 in
theorem c_X5_integral (l : Launch) (dC : Nat → ClassId) (dI : Nat → Nat → Nat) (cI cJ cZ cO : ClassId) (adB adA : Nat) (bs : Int32) (lf : Nat → Option Nat) (adL adc adp ads adr : Nat) (lmo : Int32) (lha : Int64) (lfo lma lst : Int32) (lou : Int64) (kp ki kd klo khi kgu ksh khe : Int32) (ksp kig ksu kle klr : Int64) (kgo lp : Int32) (sz : Nat) (hl0 : ¬ lp < (0 : Int32)) (hl3 : lp < (3 : Int32)) (hlf : lf lp.toNatClampNeg = some adL) : Met l yX5_integral (Cond.code yX5_integral cX5_integral 2 (some .long) :: wAll) ({ frames := 1, cells := 0, slots := 0, locals := 21 }) (va_Pc [.ref adB, .int lp] (gP (dC, dI) [zX5 adB adA bs, zAL cO adA 3 lf, zX1 adL adc adp ads adr lmo lha lfo lma lst lou, zX0 adc kp ki kd klo khi kgu ksh khe ksp kig ksu adp kle klr kgo] (tyG cI cJ cZ cO) sz gN)) (va_Ql (fun r (_ : Unit) => r = kig) (fun _ t => gB (dC, dI) (va_A [zX5 adB adA bs, zAL cO adA 3 lf, zX1 adL adc adp ads adr lmo lha lfo lma lst lou, zX0 adc kp ki kd klo khi kgu ksh khe ksp kig ksu adp kle klr kgo] sz) [zX5 adB adA bs, zAL cO adA 3 lf, zX1 adL adc adp ads adr lmo lha lfo lma lst lou, zX0 adc kp ki kd klo khi kgu ksh khe ksp kig ksu adp kle klr kgo] (tyG cI cJ cZ cO) t) (va_A [zX5 adB adA bs, zAL cO adA 3 lf, zX1 adL adc adp ads adr lmo lha lfo lma lst lou, zX0 adc kp ki kd klo khi kgu ksh khe ksp kig ksu adp kle klr kgo] sz)) 0 0 (va_A [zX5 adB adA bs, zAL cO adA 3 lf, zX1 adL adc adp ads adr lmo lha lfo lma lst lou, zX0 adc kp ki kd klo khi kgu ksh khe ksp kig ksu adp kle klr kgo] sz) := by
  refine Met.ofW (cc := cX5_integral) (maxL := 2) (ret := (some .long)) (by decide) rfl ?_
  intro p e s m args below meth c s₁ B hml hv
  obtain ⟨rfl, hsz, hP, hK, hD0, hG⟩ := hv
  have hx := B.exec
  have hb := B.bytes
  have hr := B.returns
  have hts := ht_of B.pre
  have hown : s.vm.findClass RX5 = some m.cls := findClass_of_methodNamed B.named
  have hlocks := B.notSynchronized
  subst hsz
  have hD := hD0.self (sz := s.heap.size)
  generalize hAe : va_A [zX5 adB adA bs, zAL cO adA 3 lf, zX1 adL adc adp ads adr lmo lha lfo lma lst lou, zX0 adc kp ki kd klo khi kgu ksh khe ksp kig ksu adp kle klr kgo] s.heap.size = A at hD ⊢
  have hA : ∀ q : Nat, s.heap.size ≤ q → A q := fun q h => by rw [← hAe]; exact Or.inr h
  have hS : va_S A s.heap s.heap [] := va_S.rf
  have hP : va_P (dC, dI) vwCl [zX5 adB adA bs, zAL cO adA 3 lf, zX1 adL adc adp ads adr lmo lha lfo lma lst lou, zX0 adc kp ki kd klo khi kgu ksh khe ksp kig ksu adp kle klr kgo] s.heap := hP
  have hl := lv_entry ([.ref adB, .int lp]) (n := 2) (Nat.le_of_ble_eq_true rfl)
  rw [lg_entry_eq]
  generalize (lg_sl ([.ref adB, .int lp]) ++ List.replicate (2 - (lg_sl ([.ref adB, .int lp])).length) Slot.unset).toArray = ls at hl ⊢
  have hl : lv_has ls 2 [(0, .ref adB), (1, .int lp)] := hl
  refine hh_name (fun Q hQ => ?_)
  refine lv_aload_n hx hb dX5_integral_0 rfl (lv_at hl 0 rfl) ?_
  refine lv_iload_n hx hb dX5_integral_1 rfl (lv_at hl 1 rfl) ?_
  refine hh_callq (w2 := [zX5 adB adA bs, zAL cO adA 3 lf, zX1 adL adc adp ads adr lmo lha lfo lma lst lou, zX0 adc kp ki kd klo khi kgu ksh khe ksp kig ksu adp kle klr kgo]) (va_runV (As := [.int lp]) (rest := []) ⟨hx, hb, hml, hown, hts⟩ (c_X5_loopAt l dC dI cI cJ cZ cO adB adA bs lf lp adL _ hl0 hl3 hlf) (cwV 1 hts (gd_V wd_2_38 wd_2_40 wd_p_0 wd_1_1 wd_2_41) rfl rfl rfl (by decide +kernel) ⟨Nat.le_of_ble_eq_true rfl, Nat.le_of_ble_eq_true rfl⟩) (hh_pV (ci := 5) (q := (RX5, TX5, 2)) (q0 := 0) rfl rfl gN_c (fun U _ hW => gN_w hW hG) hK hP hD [0, 1] rfl rfl) rfl rfl hl.1 rfl (lv_room (Nat.le_of_ble_eq_true rfl)) dX5_integral_2 ⟨Nat.le_of_ble_eq_true rfl, Nat.le_of_ble_eq_true rfl⟩) hP hD hS hA [0, 1] [2, 3] [2, 3, 0, 1] rfl rfl rfl (by decide) rfl rfl (fun H locs hP hD hS => ?_)
  refine hh_setv (y := .ref adL) rfl ?_
  refine va_get (D := (dC, dI)) (ci := 1) (v := .ref adc) (C := RX1) (T := TX1) (N := 10) hx hb hts inW_X1 hown hK hP 2 rfl rfl 0 (by decide) (hts _ wd_1_214) (fun _ h9 => h9) rfl dX5_integral_5 ?_
  refine va_get (D := (dC, dI)) (ci := 0) (v := .long kig) (C := RX0) (T := TX0) (N := 15) hx hb hts inW_X0 hown hK hP 3 rfl rfl 9 (by decide) (hts _ wd_1_103) (fun _ h9 => h9) rfl dX5_integral_8 ?_
  exact hh_retl hQ (rfl) hx hb hr hlocks hP hK hD hS dX5_integral_11
def f_X5_gain_j1_1 (ki kd wh : Int32) : Int32 := if wh = (1 : Int32) then ki else kd
def f_X5_gain_r (kp ki kd wh : Int32) : Int32 := if wh = (0 : Int32) then kp else (f_X5_gain_j1_1 ki kd wh)
set_option maxHeartbeats 4000000 in
set_option maxRecDepth 100000 in
theorem c_X5_gain (l : Launch) (dC : Nat → ClassId) (dI : Nat → Nat → Nat) (cI cJ cZ cO : ClassId) (adB adA : Nat) (bs : Int32) (lf : Nat → Option Nat) (adL adc adp ads adr : Nat) (lmo : Int32) (lha : Int64) (lfo lma lst : Int32) (lou : Int64) (kp ki kd klo khi kgu ksh khe : Int32) (ksp kig ksu kle klr : Int64) (kgo lp wh : Int32) (sz : Nat) (hl0 : ¬ lp < (0 : Int32)) (hl3 : lp < (3 : Int32)) (hlf : lf lp.toNatClampNeg = some adL) (q4 : ¬ wh < (0 : Int32)) (q5 : wh ≤ (2 : Int32)) : Met l yX5_gain (Cond.code yX5_gain cX5_gain 4 (some .int) :: wAll) ({ frames := 1, cells := 0, slots := 0, locals := 21 }) (va_Pc [.ref adB, .int lp, .int wh] (gP (dC, dI) [zX5 adB adA bs, zAL cO adA 3 lf, zX1 adL adc adp ads adr lmo lha lfo lma lst lou, zX0 adc kp ki kd klo khi kgu ksh khe ksp kig ksu adp kle klr kgo] (tyG cI cJ cZ cO) sz gN)) (va_Qi (fun r (_ : Unit) => r = (f_X5_gain_r kp ki kd wh)) (fun _ t => gB (dC, dI) (va_A [zX5 adB adA bs, zAL cO adA 3 lf, zX1 adL adc adp ads adr lmo lha lfo lma lst lou, zX0 adc kp ki kd klo khi kgu ksh khe ksp kig ksu adp kle klr kgo] sz) [zX5 adB adA bs, zAL cO adA 3 lf, zX1 adL adc adp ads adr lmo lha lfo lma lst lou, zX0 adc kp ki kd klo khi kgu ksh khe ksp kig ksu adp kle klr kgo] (tyG cI cJ cZ cO) t) (va_A [zX5 adB adA bs, zAL cO adA 3 lf, zX1 adL adc adp ads adr lmo lha lfo lma lst lou, zX0 adc kp ki kd klo khi kgu ksh khe ksp kig ksu adp kle klr kgo] sz)) 0 0 (va_A [zX5 adB adA bs, zAL cO adA 3 lf, zX1 adL adc adp ads adr lmo lha lfo lma lst lou, zX0 adc kp ki kd klo khi kgu ksh khe ksp kig ksu adp kle klr kgo] sz) := by
  refine Met.ofW (cc := cX5_gain) (maxL := 4) (ret := (some .int)) (by decide) rfl ?_
  intro p e s m args below meth c s₁ B hml hv
  obtain ⟨rfl, hsz, hP, hK, hD0, hG⟩ := hv
  have hx := B.exec
  have hb := B.bytes
  have hr := B.returns
  have hts := ht_of B.pre
  have hown : s.vm.findClass RX5 = some m.cls := findClass_of_methodNamed B.named
  have hlocks := B.notSynchronized
  subst hsz
  have hD := hD0.self (sz := s.heap.size)
  generalize hAe : va_A [zX5 adB adA bs, zAL cO adA 3 lf, zX1 adL adc adp ads adr lmo lha lfo lma lst lou, zX0 adc kp ki kd klo khi kgu ksh khe ksp kig ksu adp kle klr kgo] s.heap.size = A at hD ⊢
  have hA : ∀ q : Nat, s.heap.size ≤ q → A q := fun q h => by rw [← hAe]; exact Or.inr h
  have hS : va_S A s.heap s.heap [] := va_S.rf
  have hP : va_P (dC, dI) vwCl [zX5 adB adA bs, zAL cO adA 3 lf, zX1 adL adc adp ads adr lmo lha lfo lma lst lou, zX0 adc kp ki kd klo khi kgu ksh khe ksp kig ksu adp kle klr kgo] s.heap := hP
  have hl := lv_entry ([.ref adB, .int lp, .int wh]) (n := 4) (Nat.le_of_ble_eq_true rfl)
  rw [lg_entry_eq]
  generalize (lg_sl ([.ref adB, .int lp, .int wh]) ++ List.replicate (4 - (lg_sl ([.ref adB, .int lp, .int wh])).length) Slot.unset).toArray = ls at hl ⊢
  have hl : lv_has ls 4 [(0, .ref adB), (1, .int lp), (2, .int wh)] := hl
  refine hh_name (fun Q hQ => ?_)
  refine lv_aload_n hx hb dX5_gain_0 rfl (lv_at hl 0 rfl) ?_
  refine lv_iload_n hx hb dX5_gain_1 rfl (lv_at hl 1 rfl) ?_
  refine hh_callq (w2 := [zX5 adB adA bs, zAL cO adA 3 lf, zX1 adL adc adp ads adr lmo lha lfo lma lst lou, zX0 adc kp ki kd klo khi kgu ksh khe ksp kig ksu adp kle klr kgo]) (va_runV (As := [.int lp]) (rest := []) ⟨hx, hb, hml, hown, hts⟩ (c_X5_loopAt l dC dI cI cJ cZ cO adB adA bs lf lp adL _ hl0 hl3 hlf) (cwV 1 hts (gd_V wd_2_38 wd_2_40 wd_p_0 wd_1_1 wd_2_41) rfl rfl rfl (by decide +kernel) ⟨Nat.le_of_ble_eq_true rfl, Nat.le_of_ble_eq_true rfl⟩) (hh_pV (ci := 5) (q := (RX5, TX5, 2)) (q0 := 0) rfl rfl gN_c (fun U _ hW => gN_w hW hG) hK hP hD [0, 1] rfl rfl) rfl rfl hl.1 rfl (lv_room (Nat.le_of_ble_eq_true rfl)) dX5_gain_2 ⟨Nat.le_of_ble_eq_true rfl, Nat.le_of_ble_eq_true rfl⟩) hP hD hS hA [0, 1] [2, 3] [2, 3, 0, 1] rfl rfl rfl (by decide) rfl rfl (fun H locs hP hD hS => ?_)
  refine hh_setv (y := .ref adL) rfl ?_
  refine va_get (D := (dC, dI)) (ci := 1) (v := .ref adc) (C := RX1) (T := TX1) (N := 10) hx hb hts inW_X1 hown hK hP 2 rfl rfl 0 (by decide) (hts _ wd_1_214) (fun _ h9 => h9) rfl dX5_gain_5 ?_
  refine lv_astore_n (lv' := [(3, .ref adc), (0, .ref adB), (1, .int lp), (2, .int wh)]) hx hb dX5_gain_8 rfl hl (by decide) rfl (fun ls hl => ?_)
  refine lv_iload_n hx hb dX5_gain_9 rfl (lv_at hl 3 rfl) ?_
  refine hh_callv (w2 := [zX5 adB adA bs, zAL cO adA 3 lf, zX1 adL adc adp ads adr lmo lha lfo lma lst lou, zX0 adc kp ki kd klo khi kgu ksh khe ksp kig ksu adp kle klr kgo]) (va_runS (As := [.int wh]) (rest := []) ⟨hx, hb, hml, hown, hts⟩ (c_X5_requireGainNumber l dC dI cI cJ cZ cO wh _ q4 q5) (va_cwS 1 hts (gd_S wd_2_160 wd_2_161 wd_1_1 wd_2_162) rfl rfl rfl (by decide +kernel) ⟨Nat.le_of_ble_eq_true rfl, Nat.le_of_ble_eq_true rfl⟩) (hh_pS gN_c (fun U _ hW => gN_w hW hG) hK hP hD [] rfl rfl) rfl rfl hl.1 rfl (lv_room (Nat.le_of_ble_eq_true rfl)) dX5_gain_10 ⟨Nat.le_of_ble_eq_true rfl, Nat.le_of_ble_eq_true rfl⟩) hP hD hS hA [] [0, 1, 2, 3] [0, 1, 2, 3] rfl rfl rfl (by decide) rfl rfl (fun H locs hP hD hS => ?_)
  refine lv_iload_n hx hb dX5_gain_13 rfl (lv_at hl 3 rfl) ?_
  refine lv_if_ne (tgt := 22) hx hb dX5_gain_14 (by decide) (fun h1 => ?_) (fun h1 => ?_)
  · skip
    refine lv_iload_n hx hb dX5_gain_22 rfl (lv_at hl 3 rfl) ?_
    refine lv_iconst (v := 1) hx hb dX5_gain_23 (by decide) ?_
    have J1 : ∀ (H : Heap) (locs : List Loc) (ls : Array Slot), va_P (dC, dI) vwCl [zX5 adB adA bs, zAL cO adA 3 lf, zX1 adL adc adp ads adr lmo lha lfo lma lst lou, zX0 adc kp ki kd klo khi kgu ksh khe ksp kig ksu adp kle klr kgo] H → va_D A [zX5 adB adA bs, zAL cO adA 3 lf, zX1 adL adc adp ads adr lmo lha lfo lma lst lou, zX0 adc kp ki kd klo khi kgu ksh khe ksp kig ksu adp kle klr kgo] → va_S A s.heap H locs → lv_has ls 4 [(3, .ref adc), (0, .ref adB), (1, .int lp), (2, .int wh)] → W p l e (headSpec (Cond.code yX5_gain cX5_gain 4 (some .int) :: wAll) ({ frames := 1, cells := 0, slots := 0, locals := 21 })).room s m ([.ref adB, .int lp, .int wh] : List Value).toArray below meth c H locs 0 0 Q (F0 m 38 ls [.int (f_X5_gain_j1_1 ki kd wh)]) := by
      intro H locs ls hP hD hS hl
      exact hh_reti hQ ((if_neg h1).symm) hx hb hr hlocks hP hK hD hS dX5_gain_38
    refine lv_icmp_ne (tgt := 34) hx hb dX5_gain_24 (by decide) (fun h2 => ?_) (fun h2 => ?_)
    · skip
      refine lv_aload_n hx hb dX5_gain_34 rfl (lv_at hl 0 rfl) ?_
      refine va_get (D := (dC, dI)) (ci := 0) (v := .int kd) (C := RX0) (T := TX0) (N := 15) hx hb hts inW_X0 hown hK hP 3 rfl rfl 2 (by decide) (hts _ wd_1_88) (fun _ h9 => h9) rfl dX5_gain_35 ?_
      have e3 : (f_X5_gain_j1_1 ki kd wh) = kd := if_neg h2
      refine hh_seti (y := (f_X5_gain_j1_1 ki kd wh)) (if_neg h2) ?_
      exact J1 _ _ _ (hP) (hD) hS (lv_sub hl [0, 1, 2, 3] rfl)
    · skip
      refine lv_aload_n hx hb dX5_gain_27 rfl (lv_at hl 0 rfl) ?_
      refine va_get (D := (dC, dI)) (ci := 0) (v := .int ki) (C := RX0) (T := TX0) (N := 15) hx hb hts inW_X0 hown hK hP 3 rfl rfl 1 (by decide) (hts _ wd_1_86) (fun _ h9 => h9) rfl dX5_gain_28 ?_
      refine lv_goto (tgt := 38) hx hb dX5_gain_31 (by decide) ?_
      have e4 : (f_X5_gain_j1_1 ki kd wh) = ki := if_pos h2
      refine hh_seti (y := (f_X5_gain_j1_1 ki kd wh)) (if_pos h2) ?_
      exact J1 _ _ _ (hP) (hD) hS (lv_sub hl [0, 1, 2, 3] rfl)
  · skip
    refine lv_aload_n hx hb dX5_gain_17 rfl (lv_at hl 0 rfl) ?_
    refine va_get (D := (dC, dI)) (ci := 0) (v := .int kp) (C := RX0) (T := TX0) (N := 15) hx hb hts inW_X0 hown hK hP 3 rfl rfl 0 (by decide) (hts _ wd_1_84) (fun _ h9 => h9) rfl dX5_gain_18 ?_
    exact hh_reti hQ ((if_pos h1).symm) hx hb hr hlocks hP hK hD hS dX5_gain_21
set_option maxHeartbeats 4000000 in
set_option maxRecDepth 100000 in
theorem c_X5_mode (l : Launch) (dC : Nat → ClassId) (dI : Nat → Nat → Nat) (cI cJ cZ cO : ClassId) (adB adA : Nat) (bs : Int32) (lf : Nat → Option Nat) (adL adc adp ads adr : Nat) (lmo : Int32) (lha : Int64) (lfo lma lst : Int32) (lou : Int64) (lp : Int32) (sz : Nat) (hl0 : ¬ lp < (0 : Int32)) (hl3 : lp < (3 : Int32)) (hlf : lf lp.toNatClampNeg = some adL) : Met l yX5_mode (Cond.code yX5_mode cX5_mode 2 (some .int) :: wAll) ({ frames := 1, cells := 0, slots := 0, locals := 21 }) (va_Pc [.ref adB, .int lp] (gP (dC, dI) [zX5 adB adA bs, zAL cO adA 3 lf, zX1 adL adc adp ads adr lmo lha lfo lma lst lou] (tyG cI cJ cZ cO) sz gN)) (va_Qi (fun r (_ : Unit) => r = lmo) (fun _ t => gB (dC, dI) (va_A [zX5 adB adA bs, zAL cO adA 3 lf, zX1 adL adc adp ads adr lmo lha lfo lma lst lou] sz) [zX5 adB adA bs, zAL cO adA 3 lf, zX1 adL adc adp ads adr lmo lha lfo lma lst lou] (tyG cI cJ cZ cO) t) (va_A [zX5 adB adA bs, zAL cO adA 3 lf, zX1 adL adc adp ads adr lmo lha lfo lma lst lou] sz)) 0 0 (va_A [zX5 adB adA bs, zAL cO adA 3 lf, zX1 adL adc adp ads adr lmo lha lfo lma lst lou] sz) := by
  refine Met.ofW (cc := cX5_mode) (maxL := 2) (ret := (some .int)) (by decide) rfl ?_
  intro p e s m args below meth c s₁ B hml hv
  obtain ⟨rfl, hsz, hP, hK, hD0, hG⟩ := hv
  have hx := B.exec
  have hb := B.bytes
  have hr := B.returns
  have hts := ht_of B.pre
  have hown : s.vm.findClass RX5 = some m.cls := findClass_of_methodNamed B.named
  have hlocks := B.notSynchronized
  subst hsz
  have hD := hD0.self (sz := s.heap.size)
  generalize hAe : va_A [zX5 adB adA bs, zAL cO adA 3 lf, zX1 adL adc adp ads adr lmo lha lfo lma lst lou] s.heap.size = A at hD ⊢
  have hA : ∀ q : Nat, s.heap.size ≤ q → A q := fun q h => by rw [← hAe]; exact Or.inr h
  have hS : va_S A s.heap s.heap [] := va_S.rf
  have hP : va_P (dC, dI) vwCl [zX5 adB adA bs, zAL cO adA 3 lf, zX1 adL adc adp ads adr lmo lha lfo lma lst lou] s.heap := hP
  have hl := lv_entry ([.ref adB, .int lp]) (n := 2) (Nat.le_of_ble_eq_true rfl)
  rw [lg_entry_eq]
  generalize (lg_sl ([.ref adB, .int lp]) ++ List.replicate (2 - (lg_sl ([.ref adB, .int lp])).length) Slot.unset).toArray = ls at hl ⊢
  have hl : lv_has ls 2 [(0, .ref adB), (1, .int lp)] := hl
  refine hh_name (fun Q hQ => ?_)
  refine lv_aload_n hx hb dX5_mode_0 rfl (lv_at hl 0 rfl) ?_
  refine lv_iload_n hx hb dX5_mode_1 rfl (lv_at hl 1 rfl) ?_
  refine hh_callq (w2 := [zX5 adB adA bs, zAL cO adA 3 lf, zX1 adL adc adp ads adr lmo lha lfo lma lst lou]) (va_runV (As := [.int lp]) (rest := []) ⟨hx, hb, hml, hown, hts⟩ (c_X5_loopAt l dC dI cI cJ cZ cO adB adA bs lf lp adL _ hl0 hl3 hlf) (cwV 1 hts (gd_V wd_2_38 wd_2_40 wd_p_0 wd_1_1 wd_2_41) rfl rfl rfl (by decide +kernel) ⟨Nat.le_of_ble_eq_true rfl, Nat.le_of_ble_eq_true rfl⟩) (hh_pV (ci := 5) (q := (RX5, TX5, 2)) (q0 := 0) rfl rfl gN_c (fun U _ hW => gN_w hW hG) hK hP hD [0, 1] rfl rfl) rfl rfl hl.1 rfl (lv_room (Nat.le_of_ble_eq_true rfl)) dX5_mode_2 ⟨Nat.le_of_ble_eq_true rfl, Nat.le_of_ble_eq_true rfl⟩) hP hD hS hA [0, 1] [2] [1, 2, 0] rfl rfl rfl (by decide) rfl rfl (fun H locs hP hD hS => ?_)
  refine hh_setv (y := .ref adL) rfl ?_
  refine va_get (D := (dC, dI)) (ci := 1) (v := .int lmo) (C := RX1) (T := TX1) (N := 10) hx hb hts inW_X1 hown hK hP 2 rfl rfl 4 (by decide) (hts _ wd_1_222) (fun _ h9 => h9) rfl dX5_mode_5 ?_
  exact hh_reti hQ (rfl) hx hb hr hlocks hP hK hD hS dX5_mode_8
set_option maxHeartbeats 4000000 in
set_option maxRecDepth 100000 in
theorem c_X5_wasStarved (l : Launch) (dC : Nat → ClassId) (dI : Nat → Nat → Nat) (cI cJ cZ cO : ClassId) (adB adA : Nat) (bs : Int32) (lf : Nat → Option Nat) (adL adc adp ads adr : Nat) (lmo : Int32) (lha : Int64) (lfo lma lst : Int32) (lou : Int64) (lp : Int32) (sz : Nat) (hl0 : ¬ lp < (0 : Int32)) (hl3 : lp < (3 : Int32)) (hlf : lf lp.toNatClampNeg = some adL) (hzs : narrow .boolean (.int lst) = .int lst) : Met l yX5_wasStarved (Cond.code yX5_wasStarved cX5_wasStarved 2 (some .boolean) :: wAll) ({ frames := 1, cells := 0, slots := 0, locals := 21 }) (va_Pc [.ref adB, .int lp] (gP (dC, dI) [zX5 adB adA bs, zAL cO adA 3 lf, zX1 adL adc adp ads adr lmo lha lfo lma lst lou] (tyG cI cJ cZ cO) sz gN)) (va_Qi (fun r (_ : Unit) => r = lst) (fun _ t => gB (dC, dI) (va_A [zX5 adB adA bs, zAL cO adA 3 lf, zX1 adL adc adp ads adr lmo lha lfo lma lst lou] sz) [zX5 adB adA bs, zAL cO adA 3 lf, zX1 adL adc adp ads adr lmo lha lfo lma lst lou] (tyG cI cJ cZ cO) t) (va_A [zX5 adB adA bs, zAL cO adA 3 lf, zX1 adL adc adp ads adr lmo lha lfo lma lst lou] sz)) 0 0 (va_A [zX5 adB adA bs, zAL cO adA 3 lf, zX1 adL adc adp ads adr lmo lha lfo lma lst lou] sz) := by
  refine Met.ofW (cc := cX5_wasStarved) (maxL := 2) (ret := (some .boolean)) (by decide) rfl ?_
  intro p e s m args below meth c s₁ B hml hv
  obtain ⟨rfl, hsz, hP, hK, hD0, hG⟩ := hv
  have hx := B.exec
  have hb := B.bytes
  have hr := B.returns
  have hts := ht_of B.pre
  have hown : s.vm.findClass RX5 = some m.cls := findClass_of_methodNamed B.named
  have hlocks := B.notSynchronized
  subst hsz
  have hD := hD0.self (sz := s.heap.size)
  generalize hAe : va_A [zX5 adB adA bs, zAL cO adA 3 lf, zX1 adL adc adp ads adr lmo lha lfo lma lst lou] s.heap.size = A at hD ⊢
  have hA : ∀ q : Nat, s.heap.size ≤ q → A q := fun q h => by rw [← hAe]; exact Or.inr h
  have hS : va_S A s.heap s.heap [] := va_S.rf
  have hP : va_P (dC, dI) vwCl [zX5 adB adA bs, zAL cO adA 3 lf, zX1 adL adc adp ads adr lmo lha lfo lma lst lou] s.heap := hP
  have hl := lv_entry ([.ref adB, .int lp]) (n := 2) (Nat.le_of_ble_eq_true rfl)
  rw [lg_entry_eq]
  generalize (lg_sl ([.ref adB, .int lp]) ++ List.replicate (2 - (lg_sl ([.ref adB, .int lp])).length) Slot.unset).toArray = ls at hl ⊢
  have hl : lv_has ls 2 [(0, .ref adB), (1, .int lp)] := hl
  refine hh_name (fun Q hQ => ?_)
  refine lv_aload_n hx hb dX5_wasStarved_0 rfl (lv_at hl 0 rfl) ?_
  refine lv_iload_n hx hb dX5_wasStarved_1 rfl (lv_at hl 1 rfl) ?_
  refine hh_callq (w2 := [zX5 adB adA bs, zAL cO adA 3 lf, zX1 adL adc adp ads adr lmo lha lfo lma lst lou]) (va_runV (As := [.int lp]) (rest := []) ⟨hx, hb, hml, hown, hts⟩ (c_X5_loopAt l dC dI cI cJ cZ cO adB adA bs lf lp adL _ hl0 hl3 hlf) (cwV 1 hts (gd_V wd_2_38 wd_2_40 wd_p_0 wd_1_1 wd_2_41) rfl rfl rfl (by decide +kernel) ⟨Nat.le_of_ble_eq_true rfl, Nat.le_of_ble_eq_true rfl⟩) (hh_pV (ci := 5) (q := (RX5, TX5, 2)) (q0 := 0) rfl rfl gN_c (fun U _ hW => gN_w hW hG) hK hP hD [0, 1] rfl rfl) rfl rfl hl.1 rfl (lv_room (Nat.le_of_ble_eq_true rfl)) dX5_wasStarved_2 ⟨Nat.le_of_ble_eq_true rfl, Nat.le_of_ble_eq_true rfl⟩) hP hD hS hA [0, 1] [2] [1, 2, 0] rfl rfl rfl (by decide) rfl rfl (fun H locs hP hD hS => ?_)
  refine hh_setv (y := .ref adL) rfl ?_
  refine va_get (D := (dC, dI)) (ci := 1) (v := .int lst) (C := RX1) (T := TX1) (N := 10) hx hb hts inW_X1 hown hK hP 2 rfl rfl 8 (by decide) (hts _ wd_1_230) (fun _ h9 => h9) rfl dX5_wasStarved_5 ?_
  exact hh_retz hQ (rfl) (hzs) hx hb hr hlocks hP hK hD hS dX5_wasStarved_8
set_option maxHeartbeats 4000000 in
set_option maxRecDepth 100000 in
theorem c_X5_held (l : Launch) (dC : Nat → ClassId) (dI : Nat → Nat → Nat) (cI cJ cZ cO : ClassId) (adB adA : Nat) (bs : Int32) (lf : Nat → Option Nat) (adL adc adp ads adr : Nat) (lmo : Int32) (lha : Int64) (lfo lma lst : Int32) (lou : Int64) (kp ki kd klo khi kgu ksh khe : Int32) (ksp kig ksu kle klr : Int64) (kgo lp : Int32) (sz : Nat) (hl0 : ¬ lp < (0 : Int32)) (hl3 : lp < (3 : Int32)) (hlf : lf lp.toNatClampNeg = some adL) : Met l yX5_held (Cond.code yX5_held cX5_held 2 (some .int) :: wAll) ({ frames := 1, cells := 0, slots := 0, locals := 21 }) (va_Pc [.ref adB, .int lp] (gP (dC, dI) [zX5 adB adA bs, zAL cO adA 3 lf, zX1 adL adc adp ads adr lmo lha lfo lma lst lou, zX0 adc kp ki kd klo khi kgu ksh khe ksp kig ksu adp kle klr kgo] (tyG cI cJ cZ cO) sz gN)) (va_Qi (fun r (_ : Unit) => r = khe) (fun _ t => gB (dC, dI) (va_A [zX5 adB adA bs, zAL cO adA 3 lf, zX1 adL adc adp ads adr lmo lha lfo lma lst lou, zX0 adc kp ki kd klo khi kgu ksh khe ksp kig ksu adp kle klr kgo] sz) [zX5 adB adA bs, zAL cO adA 3 lf, zX1 adL adc adp ads adr lmo lha lfo lma lst lou, zX0 adc kp ki kd klo khi kgu ksh khe ksp kig ksu adp kle klr kgo] (tyG cI cJ cZ cO) t) (va_A [zX5 adB adA bs, zAL cO adA 3 lf, zX1 adL adc adp ads adr lmo lha lfo lma lst lou, zX0 adc kp ki kd klo khi kgu ksh khe ksp kig ksu adp kle klr kgo] sz)) 0 0 (va_A [zX5 adB adA bs, zAL cO adA 3 lf, zX1 adL adc adp ads adr lmo lha lfo lma lst lou, zX0 adc kp ki kd klo khi kgu ksh khe ksp kig ksu adp kle klr kgo] sz) := by
  refine Met.ofW (cc := cX5_held) (maxL := 2) (ret := (some .int)) (by decide) rfl ?_
  intro p e s m args below meth c s₁ B hml hv
  obtain ⟨rfl, hsz, hP, hK, hD0, hG⟩ := hv
  have hx := B.exec
  have hb := B.bytes
  have hr := B.returns
  have hts := ht_of B.pre
  have hown : s.vm.findClass RX5 = some m.cls := findClass_of_methodNamed B.named
  have hlocks := B.notSynchronized
  subst hsz
  have hD := hD0.self (sz := s.heap.size)
  generalize hAe : va_A [zX5 adB adA bs, zAL cO adA 3 lf, zX1 adL adc adp ads adr lmo lha lfo lma lst lou, zX0 adc kp ki kd klo khi kgu ksh khe ksp kig ksu adp kle klr kgo] s.heap.size = A at hD ⊢
  have hA : ∀ q : Nat, s.heap.size ≤ q → A q := fun q h => by rw [← hAe]; exact Or.inr h
  have hS : va_S A s.heap s.heap [] := va_S.rf
  have hP : va_P (dC, dI) vwCl [zX5 adB adA bs, zAL cO adA 3 lf, zX1 adL adc adp ads adr lmo lha lfo lma lst lou, zX0 adc kp ki kd klo khi kgu ksh khe ksp kig ksu adp kle klr kgo] s.heap := hP
  have hl := lv_entry ([.ref adB, .int lp]) (n := 2) (Nat.le_of_ble_eq_true rfl)
  rw [lg_entry_eq]
  generalize (lg_sl ([.ref adB, .int lp]) ++ List.replicate (2 - (lg_sl ([.ref adB, .int lp])).length) Slot.unset).toArray = ls at hl ⊢
  have hl : lv_has ls 2 [(0, .ref adB), (1, .int lp)] := hl
  refine hh_name (fun Q hQ => ?_)
  refine lv_aload_n hx hb dX5_held_0 rfl (lv_at hl 0 rfl) ?_
  refine lv_iload_n hx hb dX5_held_1 rfl (lv_at hl 1 rfl) ?_
  refine hh_callq (w2 := [zX5 adB adA bs, zAL cO adA 3 lf, zX1 adL adc adp ads adr lmo lha lfo lma lst lou, zX0 adc kp ki kd klo khi kgu ksh khe ksp kig ksu adp kle klr kgo]) (va_runV (As := [.int lp]) (rest := []) ⟨hx, hb, hml, hown, hts⟩ (c_X5_loopAt l dC dI cI cJ cZ cO adB adA bs lf lp adL _ hl0 hl3 hlf) (cwV 1 hts (gd_V wd_2_38 wd_2_40 wd_p_0 wd_1_1 wd_2_41) rfl rfl rfl (by decide +kernel) ⟨Nat.le_of_ble_eq_true rfl, Nat.le_of_ble_eq_true rfl⟩) (hh_pV (ci := 5) (q := (RX5, TX5, 2)) (q0 := 0) rfl rfl gN_c (fun U _ hW => gN_w hW hG) hK hP hD [0, 1] rfl rfl) rfl rfl hl.1 rfl (lv_room (Nat.le_of_ble_eq_true rfl)) dX5_held_2 ⟨Nat.le_of_ble_eq_true rfl, Nat.le_of_ble_eq_true rfl⟩) hP hD hS hA [0, 1] [2, 3] [2, 3, 0, 1] rfl rfl rfl (by decide) rfl rfl (fun H locs hP hD hS => ?_)
  refine hh_setv (y := .ref adL) rfl ?_
  refine va_get (D := (dC, dI)) (ci := 1) (v := .ref adc) (C := RX1) (T := TX1) (N := 10) hx hb hts inW_X1 hown hK hP 2 rfl rfl 0 (by decide) (hts _ wd_1_214) (fun _ h9 => h9) rfl dX5_held_5 ?_
  refine va_get (D := (dC, dI)) (ci := 0) (v := .int khe) (C := RX0) (T := TX0) (N := 15) hx hb hts inW_X0 hown hK hP 3 rfl rfl 7 (by decide) (hts _ wd_1_98) (fun _ h9 => h9) rfl dX5_held_8 ?_
  exact hh_reti hQ (rfl) hx hb hr hlocks hP hK hD hS dX5_held_11
def f_X5_startRelay_j1_1 (lmo : Int32) : Int32 := if lmo = (1 : Int32) then (1 : Int32) else (0 : Int32)
theorem f_X5_startRelay_j1_1_z (lmo : Int32) : narrow .boolean (.int (f_X5_startRelay_j1_1 lmo)) = .int (f_X5_startRelay_j1_1 lmo) := by
  unfold f_X5_startRelay_j1_1
  repeat' split
  all_goals rfl
set_option maxHeartbeats 4000000 in
set_option maxRecDepth 100000 in
theorem c_X5_startRelay (l : Launch) (dC : Nat → ClassId) (dI : Nat → Nat → Nat) (cI cJ cZ cO : ClassId) (adB adA : Nat) (bs : Int32) (lf : Nat → Option Nat) (adL adc adp ads adr : Nat) (lmo : Int32) (lha : Int64) (lfo lma lst : Int32) (lou : Int64) (rpr rpe : Int32) (rsw rce : Int64) (rhe rba rup rsa rri rse : Int32) (rgr rle : Int64) (lp hev bav : Int32) (sz : Nat) (hl0 : ¬ lp < (0 : Int32)) (hl3 : lp < (3 : Int32)) (hlf : lf lp.toNatClampNeg = some adL) (q4 : ¬ hev < (1 : Int32)) (q5 : ¬ (100000 : Int32) < hev) (q6 : ¬ bav < (0 : Int32)) (q7 : ¬ (100000 : Int32) < bav) (q8 : ¬ (f_X5_startRelay_j1_1 lmo) = (0 : Int32)) : Met l yX5_startRelay (Cond.code yX5_startRelay cX5_startRelay 5 none :: wAll) ({ frames := 2, cells := 0, slots := 0, locals := 42 }) (va_Pc [.ref adB, .int lp, .int hev, .int bav] (gP (dC, dI) [zX5 adB adA bs, zAL cO adA 3 lf, zX1 adL adc adp ads adr lmo lha lfo lma lst lou, zX3 adr rpr rpe rsw rce rhe rba rup rsa rri rse rgr rle] (tyG cI cJ cZ cO) sz gN)) (va_Qv (fun (_ : Unit) => True) (fun _ t => gB (dC, dI) (va_A [zX5 adB adA bs, zAL cO adA 3 lf, zX1 adL adc adp ads adr lmo lha lfo lma lst lou, zX3 adr rpr rpe rsw rce rhe rba rup rsa rri rse rgr rle] sz) [zX5 adB adA bs, zAL cO adA 3 lf, zX1 adL adc adp ads adr (3 : Int32) lha lfo lma lst lou, zX3 adr (1 : Int32) rpe rsw lou hev bav (1 : Int32) (0 : Int32) (0 : Int32) rse rgr rle] (tyG cI cJ cZ cO) t) (va_A [zX5 adB adA bs, zAL cO adA 3 lf, zX1 adL adc adp ads adr lmo lha lfo lma lst lou, zX3 adr rpr rpe rsw rce rhe rba rup rsa rri rse rgr rle] sz)) 0 0 (va_A [zX5 adB adA bs, zAL cO adA 3 lf, zX1 adL adc adp ads adr lmo lha lfo lma lst lou, zX3 adr rpr rpe rsw rce rhe rba rup rsa rri rse rgr rle] sz) := by
  refine Met.ofW (cc := cX5_startRelay) (maxL := 5) (ret := none) (by decide) rfl ?_
  intro p e s m args below meth c s₁ B hml hv
  obtain ⟨rfl, hsz, hP, hK, hD0, hG⟩ := hv
  have hx := B.exec
  have hb := B.bytes
  have hr := B.returns
  have hts := ht_of B.pre
  have hown : s.vm.findClass RX5 = some m.cls := findClass_of_methodNamed B.named
  have hlocks := B.notSynchronized
  subst hsz
  have hD := hD0.self (sz := s.heap.size)
  generalize hAe : va_A [zX5 adB adA bs, zAL cO adA 3 lf, zX1 adL adc adp ads adr lmo lha lfo lma lst lou, zX3 adr rpr rpe rsw rce rhe rba rup rsa rri rse rgr rle] s.heap.size = A at hD ⊢
  have hA : ∀ q : Nat, s.heap.size ≤ q → A q := fun q h => by rw [← hAe]; exact Or.inr h
  have hS : va_S A s.heap s.heap [] := va_S.rf
  have hP : va_P (dC, dI) vwCl [zX5 adB adA bs, zAL cO adA 3 lf, zX1 adL adc adp ads adr lmo lha lfo lma lst lou, zX3 adr rpr rpe rsw rce rhe rba rup rsa rri rse rgr rle] s.heap := hP
  have hl := lv_entry ([.ref adB, .int lp, .int hev, .int bav]) (n := 5) (Nat.le_of_ble_eq_true rfl)
  rw [lg_entry_eq]
  generalize (lg_sl ([.ref adB, .int lp, .int hev, .int bav]) ++ List.replicate (5 - (lg_sl ([.ref adB, .int lp, .int hev, .int bav])).length) Slot.unset).toArray = ls at hl ⊢
  have hl : lv_has ls 5 [(0, .ref adB), (1, .int lp), (2, .int hev), (3, .int bav)] := hl
  refine hh_name (fun Q hQ => ?_)
  refine lv_aload_n hx hb dX5_startRelay_0 rfl (lv_at hl 0 rfl) ?_
  refine lv_iload_n hx hb dX5_startRelay_1 rfl (lv_at hl 1 rfl) ?_
  refine hh_callq (w2 := [zX5 adB adA bs, zAL cO adA 3 lf, zX1 adL adc adp ads adr lmo lha lfo lma lst lou, zX3 adr rpr rpe rsw rce rhe rba rup rsa rri rse rgr rle]) (va_runV (As := [.int lp]) (rest := []) ⟨hx, hb, hml, hown, hts⟩ (c_X5_loopAt l dC dI cI cJ cZ cO adB adA bs lf lp adL _ hl0 hl3 hlf) (cwV 1 hts (gd_V wd_2_38 wd_2_40 wd_p_0 wd_1_1 wd_2_41) rfl rfl rfl (by decide +kernel) ⟨Nat.le_of_ble_eq_true rfl, Nat.le_of_ble_eq_true rfl⟩) (hh_pV (ci := 5) (q := (RX5, TX5, 2)) (q0 := 0) rfl rfl gN_c (fun U _ hW => gN_w hW hG) hK hP hD [0, 1] rfl rfl) rfl rfl hl.1 rfl (lv_room (Nat.le_of_ble_eq_true rfl)) dX5_startRelay_2 ⟨Nat.le_of_ble_eq_true rfl, Nat.le_of_ble_eq_true rfl⟩) hP hD hS hA [0, 1] [2, 3] [2, 3, 0, 1] rfl rfl rfl (by decide) rfl rfl (fun H locs hP hD hS => ?_)
  refine hh_setv (y := .ref adL) rfl ?_
  refine lv_astore (lv' := [(4, .ref adL), (0, .ref adB), (1, .int lp), (2, .int hev), (3, .int bav)]) hx hb dX5_startRelay_5 hl (by decide) rfl (fun ls hl => ?_)
  refine lv_iload_n hx hb dX5_startRelay_7 rfl (lv_at hl 3 rfl) ?_
  refine lv_iconst (v := 1) hx hb dX5_startRelay_8 (by decide) ?_
  refine lv_ldc (v := 100000) hx hb hown (hts _ wd_3_50) dX5_startRelay_9 ?_
  refine hh_callv (w2 := [zX5 adB adA bs, zAL cO adA 3 lf, zX1 adL adc adp ads adr lmo lha lfo lma lst lou, zX3 adr rpr rpe rsw rce rhe rba rup rsa rri rse rgr rle]) (va_runS (As := [.int hev, .int (1 : Int32), .int (100000 : Int32)]) (rest := []) ⟨hx, hb, hml, hown, hts⟩ (c_X5_requireWithin l dC dI cI cJ cZ cO hev (1 : Int32) (100000 : Int32) _ q4 q5) (va_cwS 3 hts (gd_S wd_2_110 wd_2_111 wd_1_1 wd_2_112) rfl rfl rfl (by decide +kernel) ⟨Nat.le_of_ble_eq_true rfl, Nat.le_of_ble_eq_true rfl⟩) (hh_pS gN_c (fun U _ hW => gN_w hW hG) hK hP hD [] rfl rfl) rfl rfl hl.1 rfl (lv_room (Nat.le_of_ble_eq_true rfl)) dX5_startRelay_11 ⟨Nat.le_of_ble_eq_true rfl, Nat.le_of_ble_eq_true rfl⟩) hP hD hS hA [] [0, 1, 2, 3] [0, 1, 2, 3] rfl rfl rfl (by decide) rfl rfl (fun H locs hP hD hS => ?_)
  refine lv_iload_n hx hb dX5_startRelay_14 rfl (lv_at hl 4 rfl) ?_
  refine lv_iconst (v := 0) hx hb dX5_startRelay_15 (by decide) ?_
  refine lv_ldc (v := 100000) hx hb hown (hts _ wd_3_50) dX5_startRelay_16 ?_
  refine hh_callv (w2 := [zX5 adB adA bs, zAL cO adA 3 lf, zX1 adL adc adp ads adr lmo lha lfo lma lst lou, zX3 adr rpr rpe rsw rce rhe rba rup rsa rri rse rgr rle]) (va_runS (As := [.int bav, .int (0 : Int32), .int (100000 : Int32)]) (rest := []) ⟨hx, hb, hml, hown, hts⟩ (c_X5_requireWithin l dC dI cI cJ cZ cO bav (0 : Int32) (100000 : Int32) _ q6 q7) (va_cwS 3 hts (gd_S wd_2_110 wd_2_111 wd_1_1 wd_2_112) rfl rfl rfl (by decide +kernel) ⟨Nat.le_of_ble_eq_true rfl, Nat.le_of_ble_eq_true rfl⟩) (hh_pS gN_c (fun U _ hW => gN_w hW hG) hK hP hD [] rfl rfl) rfl rfl hl.1 rfl (lv_room (Nat.le_of_ble_eq_true rfl)) dX5_startRelay_18 ⟨Nat.le_of_ble_eq_true rfl, Nat.le_of_ble_eq_true rfl⟩) hP hD hS hA [] [0, 1, 2, 3] [0, 1, 2, 3] rfl rfl rfl (by decide) rfl rfl (fun H locs hP hD hS => ?_)
  refine lv_aload hx hb dX5_startRelay_21 (lv_at hl 0 rfl) ?_
  refine va_get (D := (dC, dI)) (ci := 1) (v := .int lmo) (C := RX1) (T := TX1) (N := 10) hx hb hts inW_X1 hown hK hP 2 rfl rfl 4 (by decide) (hts _ wd_1_222) (fun _ h9 => h9) rfl dX5_startRelay_23 ?_
  refine lv_iconst (v := 1) hx hb dX5_startRelay_26 (by decide) ?_
  have J1 : ∀ (H : Heap) (locs : List Loc) (ls : Array Slot), va_P (dC, dI) vwCl [zX5 adB adA bs, zAL cO adA 3 lf, zX1 adL adc adp ads adr lmo lha lfo lma lst lou, zX3 adr rpr rpe rsw rce rhe rba rup rsa rri rse rgr rle] H → va_D A [zX5 adB adA bs, zAL cO adA 3 lf, zX1 adL adc adp ads adr lmo lha lfo lma lst lou, zX3 adr rpr rpe rsw rce rhe rba rup rsa rri rse rgr rle] → va_S A s.heap H locs → lv_has ls 5 [(4, .ref adL), (0, .ref adB), (1, .int lp), (2, .int hev), (3, .int bav)] → W p l e (headSpec (Cond.code yX5_startRelay cX5_startRelay 5 none :: wAll) ({ frames := 2, cells := 0, slots := 0, locals := 42 })).room s m ([.ref adB, .int lp, .int hev, .int bav] : List Value).toArray below meth c H locs 0 0 Q (F0 m 35 ls [.int (f_X5_startRelay_j1_1 lmo)]) := by
    intro H locs ls hP hD hS hl
    refine hh_callv (w2 := [zX5 adB adA bs, zAL cO adA 3 lf, zX1 adL adc adp ads adr lmo lha lfo lma lst lou, zX3 adr rpr rpe rsw rce rhe rba rup rsa rri rse rgr rle]) (va_runS (As := [.int (f_X5_startRelay_j1_1 lmo)]) (rest := []) ⟨hx, hb, hml, hown, hts⟩ (c_X5_requireState l dC dI cI cJ cZ cO (f_X5_startRelay_j1_1 lmo) _ q8) (va_cwS 1 hts (gd_S wd_2_173 wd_2_174 wd_1_1 wd_2_175) rfl rfl rfl (by decide +kernel) ⟨Nat.le_of_ble_eq_true rfl, Nat.le_of_ble_eq_true rfl⟩) (hh_pS gN_c (fun U _ hW => gN_w hW hG) hK hP hD [] rfl rfl) rfl rfl hl.1 rfl (lv_room (Nat.le_of_ble_eq_true rfl)) dX5_startRelay_35 ⟨Nat.le_of_ble_eq_true rfl, Nat.le_of_ble_eq_true rfl⟩) hP hD hS hA [] [0, 1, 2, 3] [0, 1, 2, 3] rfl rfl rfl (by decide) rfl rfl (fun H locs hP hD hS => ?_)
    refine lv_aload hx hb dX5_startRelay_38 (lv_at hl 0 rfl) ?_
    refine va_get (D := (dC, dI)) (ci := 1) (v := .ref adr) (C := RX1) (T := TX1) (N := 10) hx hb hts inW_X1 hown hK hP 2 rfl rfl 3 (by decide) (hts _ wd_1_220) (fun _ h9 => h9) rfl dX5_startRelay_40 ?_
    refine lv_aload hx hb dX5_startRelay_43 (lv_at hl 0 rfl) ?_
    refine va_get (D := (dC, dI)) (ci := 1) (v := .long lou) (C := RX1) (T := TX1) (N := 10) hx hb hts inW_X1 hown hK hP 2 rfl rfl 9 (by decide) (hts _ wd_1_232) (fun _ h9 => h9) rfl dX5_startRelay_45 ?_
    refine lv_iload_n hx hb dX5_startRelay_48 rfl (lv_at hl 3 rfl) ?_
    refine lv_iload_n hx hb dX5_startRelay_49 rfl (lv_at hl 4 rfl) ?_
    refine hh_callv (w2 := [zX5 adB adA bs, zAL cO adA 3 lf, zX1 adL adc adp ads adr lmo lha lfo lma lst lou, zX3 adr (1 : Int32) rpe rsw lou hev bav (1 : Int32) (0 : Int32) (0 : Int32) rse rgr rle]) (va_runV (As := [.long lou, .int hev, .int bav]) (rest := []) ⟨hx, hb, hml, hown, hts⟩ (c_X3_begin l dC dI cI cJ cZ cO adr rpr rpe rsw rce rhe rba rup rsa rri rse rgr rle lou hev bav _) (cwV 3 hts (gd_V wd_3_51 wd_3_52 wd_3_53 wd_1_6 wd_3_54) rfl rfl rfl (by decide +kernel) ⟨Nat.le_of_ble_eq_true rfl, Nat.le_of_ble_eq_true rfl⟩) (hh_pV (ci := 3) (q := (RX3, TX3, 12)) (q0 := 3) rfl rfl gN_c (fun U _ hW => gN_w hW hG) hK hP hD [3] rfl rfl) rfl rfl hl.1 rfl (lv_room (Nat.le_of_ble_eq_true rfl)) dX5_startRelay_50 ⟨Nat.le_of_ble_eq_true rfl, Nat.le_of_ble_eq_true rfl⟩) hP hD hS hA [3] [0, 1, 2] [0, 1, 2, 3] rfl rfl rfl (by decide) rfl rfl (fun H locs hP hD hS => ?_)
    refine lv_aload hx hb dX5_startRelay_53 (lv_at hl 0 rfl) ?_
    refine lv_iconst (v := 3) hx hb dX5_startRelay_55 (by decide) ?_
    refine va_put (D := (dC, dI)) (ci := 1) (v := .int (3 : Int32)) (ty := .int) (C := RX1) (T := TX1) (N := 10) hx hb hts inW_X1 tyX1 tyX1_ok nmX1 hown hK hP hD hS 2 rfl rfl 4 (by decide) (hts _ wd_1_222) (fun _ h9 => h9) rfl (tyX1_ok 4 (by decide)) rfl rfl (Nat.le_of_ble_eq_true rfl) dX5_startRelay_56 (fun H locs hP hD hS => ?_)
    have hP : va_P (dC, dI) vwCl [zX5 adB adA bs, zAL cO adA 3 lf, zX1 adL adc adp ads adr (3 : Int32) lha lfo lma lst lou, zX3 adr (1 : Int32) rpe rsw lou hev bav (1 : Int32) (0 : Int32) (0 : Int32) rse rgr rle] H := hP
    have hD : va_D A [zX5 adB adA bs, zAL cO adA 3 lf, zX1 adL adc adp ads adr (3 : Int32) lha lfo lma lst lou, zX3 adr (1 : Int32) rpe rsw lou hev bav (1 : Int32) (0 : Int32) (0 : Int32) rse rgr rle] := hD
    exact hh_retv hQ hx hb hr hlocks hP hK hD hS dX5_startRelay_59
  refine lv_icmp_ne (tgt := 34) hx hb dX5_startRelay_27 (by decide) (fun h1 => ?_) (fun h1 => ?_)
  · skip
    refine lv_iconst (v := 0) hx hb dX5_startRelay_34 (by decide) ?_
    have e2 : (f_X5_startRelay_j1_1 lmo) = (0 : Int32) := if_neg h1
    refine hh_seti (y := (f_X5_startRelay_j1_1 lmo)) (if_neg h1) ?_
    exact J1 _ _ _ (hP) (hD) hS (lv_sub hl [0, 1, 2, 3, 4] rfl)
  · skip
    refine lv_iconst (v := 1) hx hb dX5_startRelay_30 (by decide) ?_
    refine lv_goto (tgt := 35) hx hb dX5_startRelay_31 (by decide) ?_
    have e3 : (f_X5_startRelay_j1_1 lmo) = (1 : Int32) := if_pos h1
    refine hh_seti (y := (f_X5_startRelay_j1_1 lmo)) (if_pos h1) ?_
    exact J1 _ _ _ (hP) (hD) hS (lv_sub hl [0, 1, 2, 3, 4] rfl)
set_option maxHeartbeats 4000000 in
set_option maxRecDepth 100000 in
theorem c_X5_experiment (l : Launch) (dC : Nat → ClassId) (dI : Nat → Nat → Nat) (cI cJ cZ cO : ClassId) (adB adA : Nat) (bs : Int32) (lf : Nat → Option Nat) (adL adc adp ads adr : Nat) (lmo : Int32) (lha : Int64) (lfo lma lst : Int32) (lou : Int64) (rpr rpe : Int32) (rsw rce : Int64) (rhe rba rup rsa rri rse : Int32) (rgr rle : Int64) (lp : Int32) (sz : Nat) (hl0 : ¬ lp < (0 : Int32)) (hl3 : lp < (3 : Int32)) (hlf : lf lp.toNatClampNeg = some adL) : Met l yX5_experiment (Cond.code yX5_experiment cX5_experiment 2 (some .int) :: wAll) ({ frames := 1, cells := 0, slots := 0, locals := 21 }) (va_Pc [.ref adB, .int lp] (gP (dC, dI) [zX5 adB adA bs, zAL cO adA 3 lf, zX1 adL adc adp ads adr lmo lha lfo lma lst lou, zX3 adr rpr rpe rsw rce rhe rba rup rsa rri rse rgr rle] (tyG cI cJ cZ cO) sz gN)) (va_Qi (fun r (_ : Unit) => r = rpr) (fun _ t => gB (dC, dI) (va_A [zX5 adB adA bs, zAL cO adA 3 lf, zX1 adL adc adp ads adr lmo lha lfo lma lst lou, zX3 adr rpr rpe rsw rce rhe rba rup rsa rri rse rgr rle] sz) [zX5 adB adA bs, zAL cO adA 3 lf, zX1 adL adc adp ads adr lmo lha lfo lma lst lou, zX3 adr rpr rpe rsw rce rhe rba rup rsa rri rse rgr rle] (tyG cI cJ cZ cO) t) (va_A [zX5 adB adA bs, zAL cO adA 3 lf, zX1 adL adc adp ads adr lmo lha lfo lma lst lou, zX3 adr rpr rpe rsw rce rhe rba rup rsa rri rse rgr rle] sz)) 0 0 (va_A [zX5 adB adA bs, zAL cO adA 3 lf, zX1 adL adc adp ads adr lmo lha lfo lma lst lou, zX3 adr rpr rpe rsw rce rhe rba rup rsa rri rse rgr rle] sz) := by
  refine Met.ofW (cc := cX5_experiment) (maxL := 2) (ret := (some .int)) (by decide) rfl ?_
  intro p e s m args below meth c s₁ B hml hv
  obtain ⟨rfl, hsz, hP, hK, hD0, hG⟩ := hv
  have hx := B.exec
  have hb := B.bytes
  have hr := B.returns
  have hts := ht_of B.pre
  have hown : s.vm.findClass RX5 = some m.cls := findClass_of_methodNamed B.named
  have hlocks := B.notSynchronized
  subst hsz
  have hD := hD0.self (sz := s.heap.size)
  generalize hAe : va_A [zX5 adB adA bs, zAL cO adA 3 lf, zX1 adL adc adp ads adr lmo lha lfo lma lst lou, zX3 adr rpr rpe rsw rce rhe rba rup rsa rri rse rgr rle] s.heap.size = A at hD ⊢
  have hA : ∀ q : Nat, s.heap.size ≤ q → A q := fun q h => by rw [← hAe]; exact Or.inr h
  have hS : va_S A s.heap s.heap [] := va_S.rf
  have hP : va_P (dC, dI) vwCl [zX5 adB adA bs, zAL cO adA 3 lf, zX1 adL adc adp ads adr lmo lha lfo lma lst lou, zX3 adr rpr rpe rsw rce rhe rba rup rsa rri rse rgr rle] s.heap := hP
  have hl := lv_entry ([.ref adB, .int lp]) (n := 2) (Nat.le_of_ble_eq_true rfl)
  rw [lg_entry_eq]
  generalize (lg_sl ([.ref adB, .int lp]) ++ List.replicate (2 - (lg_sl ([.ref adB, .int lp])).length) Slot.unset).toArray = ls at hl ⊢
  have hl : lv_has ls 2 [(0, .ref adB), (1, .int lp)] := hl
  refine hh_name (fun Q hQ => ?_)
  refine lv_aload_n hx hb dX5_experiment_0 rfl (lv_at hl 0 rfl) ?_
  refine lv_iload_n hx hb dX5_experiment_1 rfl (lv_at hl 1 rfl) ?_
  refine hh_callq (w2 := [zX5 adB adA bs, zAL cO adA 3 lf, zX1 adL adc adp ads adr lmo lha lfo lma lst lou, zX3 adr rpr rpe rsw rce rhe rba rup rsa rri rse rgr rle]) (va_runV (As := [.int lp]) (rest := []) ⟨hx, hb, hml, hown, hts⟩ (c_X5_loopAt l dC dI cI cJ cZ cO adB adA bs lf lp adL _ hl0 hl3 hlf) (cwV 1 hts (gd_V wd_2_38 wd_2_40 wd_p_0 wd_1_1 wd_2_41) rfl rfl rfl (by decide +kernel) ⟨Nat.le_of_ble_eq_true rfl, Nat.le_of_ble_eq_true rfl⟩) (hh_pV (ci := 5) (q := (RX5, TX5, 2)) (q0 := 0) rfl rfl gN_c (fun U _ hW => gN_w hW hG) hK hP hD [0, 1] rfl rfl) rfl rfl hl.1 rfl (lv_room (Nat.le_of_ble_eq_true rfl)) dX5_experiment_2 ⟨Nat.le_of_ble_eq_true rfl, Nat.le_of_ble_eq_true rfl⟩) hP hD hS hA [0, 1] [2, 3] [2, 3, 0, 1] rfl rfl rfl (by decide) rfl rfl (fun H locs hP hD hS => ?_)
  refine hh_setv (y := .ref adL) rfl ?_
  refine va_get (D := (dC, dI)) (ci := 1) (v := .ref adr) (C := RX1) (T := TX1) (N := 10) hx hb hts inW_X1 hown hK hP 2 rfl rfl 3 (by decide) (hts _ wd_1_220) (fun _ h9 => h9) rfl dX5_experiment_5 ?_
  refine va_get (D := (dC, dI)) (ci := 3) (v := .int rpr) (C := RX3) (T := TX3) (N := 12) hx hb hts inW_X3 hown hK hP 3 rfl rfl 0 (by decide) (hts _ wd_1_173) (fun _ h9 => h9) rfl dX5_experiment_8 ?_
  exact hh_reti hQ (rfl) hx hb hr hlocks hP hK hD hS dX5_experiment_11
def f_X5_period_j1_1 (rpr : Int32) : Int32 := if rpr = (2 : Int32) then (1 : Int32) else (0 : Int32)
theorem f_X5_period_j1_1_z (rpr : Int32) : narrow .boolean (.int (f_X5_period_j1_1 rpr)) = .int (f_X5_period_j1_1 rpr) := by
  unfold f_X5_period_j1_1
  repeat' split
  all_goals rfl
set_option maxHeartbeats 4000000 in
set_option maxRecDepth 100000 in
theorem c_X5_period (l : Launch) (dC : Nat → ClassId) (dI : Nat → Nat → Nat) (cI cJ cZ cO : ClassId) (adB adA : Nat) (bs : Int32) (lf : Nat → Option Nat) (adL adc adp ads adr : Nat) (lmo : Int32) (lha : Int64) (lfo lma lst : Int32) (lou : Int64) (rpr rpe : Int32) (rsw rce : Int64) (rhe rba rup rsa rri rse : Int32) (rgr rle : Int64) (lp : Int32) (sz : Nat) (hl0 : ¬ lp < (0 : Int32)) (hl3 : lp < (3 : Int32)) (hlf : lf lp.toNatClampNeg = some adL) (q4 : ¬ (f_X5_period_j1_1 rpr) = (0 : Int32)) : Met l yX5_period (Cond.code yX5_period cX5_period 3 (some .int) :: wAll) ({ frames := 1, cells := 0, slots := 0, locals := 21 }) (va_Pc [.ref adB, .int lp] (gP (dC, dI) [zX5 adB adA bs, zAL cO adA 3 lf, zX1 adL adc adp ads adr lmo lha lfo lma lst lou, zX3 adr rpr rpe rsw rce rhe rba rup rsa rri rse rgr rle] (tyG cI cJ cZ cO) sz gN)) (va_Qi (fun r (_ : Unit) => r = rpe) (fun _ t => gB (dC, dI) (va_A [zX5 adB adA bs, zAL cO adA 3 lf, zX1 adL adc adp ads adr lmo lha lfo lma lst lou, zX3 adr rpr rpe rsw rce rhe rba rup rsa rri rse rgr rle] sz) [zX5 adB adA bs, zAL cO adA 3 lf, zX1 adL adc adp ads adr lmo lha lfo lma lst lou, zX3 adr rpr rpe rsw rce rhe rba rup rsa rri rse rgr rle] (tyG cI cJ cZ cO) t) (va_A [zX5 adB adA bs, zAL cO adA 3 lf, zX1 adL adc adp ads adr lmo lha lfo lma lst lou, zX3 adr rpr rpe rsw rce rhe rba rup rsa rri rse rgr rle] sz)) 0 0 (va_A [zX5 adB adA bs, zAL cO adA 3 lf, zX1 adL adc adp ads adr lmo lha lfo lma lst lou, zX3 adr rpr rpe rsw rce rhe rba rup rsa rri rse rgr rle] sz) := by
  refine Met.ofW (cc := cX5_period) (maxL := 3) (ret := (some .int)) (by decide) rfl ?_
  intro p e s m args below meth c s₁ B hml hv
  obtain ⟨rfl, hsz, hP, hK, hD0, hG⟩ := hv
  have hx := B.exec
  have hb := B.bytes
  have hr := B.returns
  have hts := ht_of B.pre
  have hown : s.vm.findClass RX5 = some m.cls := findClass_of_methodNamed B.named
  have hlocks := B.notSynchronized
  subst hsz
  have hD := hD0.self (sz := s.heap.size)
  generalize hAe : va_A [zX5 adB adA bs, zAL cO adA 3 lf, zX1 adL adc adp ads adr lmo lha lfo lma lst lou, zX3 adr rpr rpe rsw rce rhe rba rup rsa rri rse rgr rle] s.heap.size = A at hD ⊢
  have hA : ∀ q : Nat, s.heap.size ≤ q → A q := fun q h => by rw [← hAe]; exact Or.inr h
  have hS : va_S A s.heap s.heap [] := va_S.rf
  have hP : va_P (dC, dI) vwCl [zX5 adB adA bs, zAL cO adA 3 lf, zX1 adL adc adp ads adr lmo lha lfo lma lst lou, zX3 adr rpr rpe rsw rce rhe rba rup rsa rri rse rgr rle] s.heap := hP
  have hl := lv_entry ([.ref adB, .int lp]) (n := 3) (Nat.le_of_ble_eq_true rfl)
  rw [lg_entry_eq]
  generalize (lg_sl ([.ref adB, .int lp]) ++ List.replicate (3 - (lg_sl ([.ref adB, .int lp])).length) Slot.unset).toArray = ls at hl ⊢
  have hl : lv_has ls 3 [(0, .ref adB), (1, .int lp)] := hl
  refine hh_name (fun Q hQ => ?_)
  refine lv_aload_n hx hb dX5_period_0 rfl (lv_at hl 0 rfl) ?_
  refine lv_iload_n hx hb dX5_period_1 rfl (lv_at hl 1 rfl) ?_
  refine hh_callq (w2 := [zX5 adB adA bs, zAL cO adA 3 lf, zX1 adL adc adp ads adr lmo lha lfo lma lst lou, zX3 adr rpr rpe rsw rce rhe rba rup rsa rri rse rgr rle]) (va_runV (As := [.int lp]) (rest := []) ⟨hx, hb, hml, hown, hts⟩ (c_X5_loopAt l dC dI cI cJ cZ cO adB adA bs lf lp adL _ hl0 hl3 hlf) (cwV 1 hts (gd_V wd_2_38 wd_2_40 wd_p_0 wd_1_1 wd_2_41) rfl rfl rfl (by decide +kernel) ⟨Nat.le_of_ble_eq_true rfl, Nat.le_of_ble_eq_true rfl⟩) (hh_pV (ci := 5) (q := (RX5, TX5, 2)) (q0 := 0) rfl rfl gN_c (fun U _ hW => gN_w hW hG) hK hP hD [0, 1] rfl rfl) rfl rfl hl.1 rfl (lv_room (Nat.le_of_ble_eq_true rfl)) dX5_period_2 ⟨Nat.le_of_ble_eq_true rfl, Nat.le_of_ble_eq_true rfl⟩) hP hD hS hA [0, 1] [2, 3] [2, 3, 0, 1] rfl rfl rfl (by decide) rfl rfl (fun H locs hP hD hS => ?_)
  refine hh_setv (y := .ref adL) rfl ?_
  refine va_get (D := (dC, dI)) (ci := 1) (v := .ref adr) (C := RX1) (T := TX1) (N := 10) hx hb hts inW_X1 hown hK hP 2 rfl rfl 3 (by decide) (hts _ wd_1_220) (fun _ h9 => h9) rfl dX5_period_5 ?_
  refine lv_astore_n (lv' := [(2, .ref adr), (0, .ref adB), (1, .int lp)]) hx hb dX5_period_8 rfl hl (by decide) rfl (fun ls hl => ?_)
  refine lv_aload_n hx hb dX5_period_9 rfl (lv_at hl 0 rfl) ?_
  refine va_get (D := (dC, dI)) (ci := 3) (v := .int rpr) (C := RX3) (T := TX3) (N := 12) hx hb hts inW_X3 hown hK hP 3 rfl rfl 0 (by decide) (hts _ wd_1_173) (fun _ h9 => h9) rfl dX5_period_10 ?_
  refine lv_iconst (v := 2) hx hb dX5_period_13 (by decide) ?_
  have J1 : ∀ (H : Heap) (locs : List Loc) (ls : Array Slot), va_P (dC, dI) vwCl [zX5 adB adA bs, zAL cO adA 3 lf, zX1 adL adc adp ads adr lmo lha lfo lma lst lou, zX3 adr rpr rpe rsw rce rhe rba rup rsa rri rse rgr rle] H → va_D A [zX5 adB adA bs, zAL cO adA 3 lf, zX1 adL adc adp ads adr lmo lha lfo lma lst lou, zX3 adr rpr rpe rsw rce rhe rba rup rsa rri rse rgr rle] → va_S A s.heap H locs → lv_has ls 3 [(2, .ref adr), (0, .ref adB), (1, .int lp)] → W p l e (headSpec (Cond.code yX5_period cX5_period 3 (some .int) :: wAll) ({ frames := 1, cells := 0, slots := 0, locals := 21 })).room s m ([.ref adB, .int lp] : List Value).toArray below meth c H locs 0 0 Q (F0 m 22 ls [.int (f_X5_period_j1_1 rpr)]) := by
    intro H locs ls hP hD hS hl
    refine hh_callv (w2 := [zX5 adB adA bs, zAL cO adA 3 lf, zX1 adL adc adp ads adr lmo lha lfo lma lst lou, zX3 adr rpr rpe rsw rce rhe rba rup rsa rri rse rgr rle]) (va_runS (As := [.int (f_X5_period_j1_1 rpr)]) (rest := []) ⟨hx, hb, hml, hown, hts⟩ (c_X5_requireState l dC dI cI cJ cZ cO (f_X5_period_j1_1 rpr) _ q4) (va_cwS 1 hts (gd_S wd_2_173 wd_2_174 wd_1_1 wd_2_175) rfl rfl rfl (by decide +kernel) ⟨Nat.le_of_ble_eq_true rfl, Nat.le_of_ble_eq_true rfl⟩) (hh_pS gN_c (fun U _ hW => gN_w hW hG) hK hP hD [] rfl rfl) rfl rfl hl.1 rfl (lv_room (Nat.le_of_ble_eq_true rfl)) dX5_period_22 ⟨Nat.le_of_ble_eq_true rfl, Nat.le_of_ble_eq_true rfl⟩) hP hD hS hA [] [0, 1, 2, 3] [0, 1, 2, 3] rfl rfl rfl (by decide) rfl rfl (fun H locs hP hD hS => ?_)
    refine lv_aload_n hx hb dX5_period_25 rfl (lv_at hl 0 rfl) ?_
    refine va_get (D := (dC, dI)) (ci := 3) (v := .int rpe) (C := RX3) (T := TX3) (N := 12) hx hb hts inW_X3 hown hK hP 3 rfl rfl 1 (by decide) (hts _ wd_1_175) (fun _ h9 => h9) rfl dX5_period_26 ?_
    exact hh_reti hQ (rfl) hx hb hr hlocks hP hK hD hS dX5_period_29
  refine lv_icmp_ne (tgt := 21) hx hb dX5_period_14 (by decide) (fun h1 => ?_) (fun h1 => ?_)
  · skip
    refine lv_iconst (v := 0) hx hb dX5_period_21 (by decide) ?_
    have e2 : (f_X5_period_j1_1 rpr) = (0 : Int32) := if_neg h1
    refine hh_seti (y := (f_X5_period_j1_1 rpr)) (if_neg h1) ?_
    exact J1 _ _ _ (hP) (hD) hS (lv_sub hl [0, 1, 2] rfl)
  · skip
    refine lv_iconst (v := 1) hx hb dX5_period_17 (by decide) ?_
    refine lv_goto (tgt := 22) hx hb dX5_period_18 (by decide) ?_
    have e3 : (f_X5_period_j1_1 rpr) = (1 : Int32) := if_pos h1
    refine hh_seti (y := (f_X5_period_j1_1 rpr)) (if_pos h1) ?_
    exact J1 _ _ _ (hP) (hD) hS (lv_sub hl [0, 1, 2] rfl)
def f_X5_swing_j1_1 (rpr : Int32) : Int32 := if rpr = (2 : Int32) then (1 : Int32) else (0 : Int32)
theorem f_X5_swing_j1_1_z (rpr : Int32) : narrow .boolean (.int (f_X5_swing_j1_1 rpr)) = .int (f_X5_swing_j1_1 rpr) := by
  unfold f_X5_swing_j1_1
  repeat' split
  all_goals rfl
set_option maxHeartbeats 4000000 in
set_option maxRecDepth 100000 in
theorem c_X5_swing (l : Launch) (dC : Nat → ClassId) (dI : Nat → Nat → Nat) (cI cJ cZ cO : ClassId) (adB adA : Nat) (bs : Int32) (lf : Nat → Option Nat) (adL adc adp ads adr : Nat) (lmo : Int32) (lha : Int64) (lfo lma lst : Int32) (lou : Int64) (rpr rpe : Int32) (rsw rce : Int64) (rhe rba rup rsa rri rse : Int32) (rgr rle : Int64) (lp : Int32) (sz : Nat) (hl0 : ¬ lp < (0 : Int32)) (hl3 : lp < (3 : Int32)) (hlf : lf lp.toNatClampNeg = some adL) (q4 : ¬ (f_X5_swing_j1_1 rpr) = (0 : Int32)) : Met l yX5_swing (Cond.code yX5_swing cX5_swing 3 (some .long) :: wAll) ({ frames := 1, cells := 0, slots := 0, locals := 21 }) (va_Pc [.ref adB, .int lp] (gP (dC, dI) [zX5 adB adA bs, zAL cO adA 3 lf, zX1 adL adc adp ads adr lmo lha lfo lma lst lou, zX3 adr rpr rpe rsw rce rhe rba rup rsa rri rse rgr rle] (tyG cI cJ cZ cO) sz gN)) (va_Ql (fun r (_ : Unit) => r = rsw) (fun _ t => gB (dC, dI) (va_A [zX5 adB adA bs, zAL cO adA 3 lf, zX1 adL adc adp ads adr lmo lha lfo lma lst lou, zX3 adr rpr rpe rsw rce rhe rba rup rsa rri rse rgr rle] sz) [zX5 adB adA bs, zAL cO adA 3 lf, zX1 adL adc adp ads adr lmo lha lfo lma lst lou, zX3 adr rpr rpe rsw rce rhe rba rup rsa rri rse rgr rle] (tyG cI cJ cZ cO) t) (va_A [zX5 adB adA bs, zAL cO adA 3 lf, zX1 adL adc adp ads adr lmo lha lfo lma lst lou, zX3 adr rpr rpe rsw rce rhe rba rup rsa rri rse rgr rle] sz)) 0 0 (va_A [zX5 adB adA bs, zAL cO adA 3 lf, zX1 adL adc adp ads adr lmo lha lfo lma lst lou, zX3 adr rpr rpe rsw rce rhe rba rup rsa rri rse rgr rle] sz) := by
  refine Met.ofW (cc := cX5_swing) (maxL := 3) (ret := (some .long)) (by decide) rfl ?_
  intro p e s m args below meth c s₁ B hml hv
  obtain ⟨rfl, hsz, hP, hK, hD0, hG⟩ := hv
  have hx := B.exec
  have hb := B.bytes
  have hr := B.returns
  have hts := ht_of B.pre
  have hown : s.vm.findClass RX5 = some m.cls := findClass_of_methodNamed B.named
  have hlocks := B.notSynchronized
  subst hsz
  have hD := hD0.self (sz := s.heap.size)
  generalize hAe : va_A [zX5 adB adA bs, zAL cO adA 3 lf, zX1 adL adc adp ads adr lmo lha lfo lma lst lou, zX3 adr rpr rpe rsw rce rhe rba rup rsa rri rse rgr rle] s.heap.size = A at hD ⊢
  have hA : ∀ q : Nat, s.heap.size ≤ q → A q := fun q h => by rw [← hAe]; exact Or.inr h
  have hS : va_S A s.heap s.heap [] := va_S.rf
  have hP : va_P (dC, dI) vwCl [zX5 adB adA bs, zAL cO adA 3 lf, zX1 adL adc adp ads adr lmo lha lfo lma lst lou, zX3 adr rpr rpe rsw rce rhe rba rup rsa rri rse rgr rle] s.heap := hP
  have hl := lv_entry ([.ref adB, .int lp]) (n := 3) (Nat.le_of_ble_eq_true rfl)
  rw [lg_entry_eq]
  generalize (lg_sl ([.ref adB, .int lp]) ++ List.replicate (3 - (lg_sl ([.ref adB, .int lp])).length) Slot.unset).toArray = ls at hl ⊢
  have hl : lv_has ls 3 [(0, .ref adB), (1, .int lp)] := hl
  refine hh_name (fun Q hQ => ?_)
  refine lv_aload_n hx hb dX5_swing_0 rfl (lv_at hl 0 rfl) ?_
  refine lv_iload_n hx hb dX5_swing_1 rfl (lv_at hl 1 rfl) ?_
  refine hh_callq (w2 := [zX5 adB adA bs, zAL cO adA 3 lf, zX1 adL adc adp ads adr lmo lha lfo lma lst lou, zX3 adr rpr rpe rsw rce rhe rba rup rsa rri rse rgr rle]) (va_runV (As := [.int lp]) (rest := []) ⟨hx, hb, hml, hown, hts⟩ (c_X5_loopAt l dC dI cI cJ cZ cO adB adA bs lf lp adL _ hl0 hl3 hlf) (cwV 1 hts (gd_V wd_2_38 wd_2_40 wd_p_0 wd_1_1 wd_2_41) rfl rfl rfl (by decide +kernel) ⟨Nat.le_of_ble_eq_true rfl, Nat.le_of_ble_eq_true rfl⟩) (hh_pV (ci := 5) (q := (RX5, TX5, 2)) (q0 := 0) rfl rfl gN_c (fun U _ hW => gN_w hW hG) hK hP hD [0, 1] rfl rfl) rfl rfl hl.1 rfl (lv_room (Nat.le_of_ble_eq_true rfl)) dX5_swing_2 ⟨Nat.le_of_ble_eq_true rfl, Nat.le_of_ble_eq_true rfl⟩) hP hD hS hA [0, 1] [2, 3] [2, 3, 0, 1] rfl rfl rfl (by decide) rfl rfl (fun H locs hP hD hS => ?_)
  refine hh_setv (y := .ref adL) rfl ?_
  refine va_get (D := (dC, dI)) (ci := 1) (v := .ref adr) (C := RX1) (T := TX1) (N := 10) hx hb hts inW_X1 hown hK hP 2 rfl rfl 3 (by decide) (hts _ wd_1_220) (fun _ h9 => h9) rfl dX5_swing_5 ?_
  refine lv_astore_n (lv' := [(2, .ref adr), (0, .ref adB), (1, .int lp)]) hx hb dX5_swing_8 rfl hl (by decide) rfl (fun ls hl => ?_)
  refine lv_aload_n hx hb dX5_swing_9 rfl (lv_at hl 0 rfl) ?_
  refine va_get (D := (dC, dI)) (ci := 3) (v := .int rpr) (C := RX3) (T := TX3) (N := 12) hx hb hts inW_X3 hown hK hP 3 rfl rfl 0 (by decide) (hts _ wd_1_173) (fun _ h9 => h9) rfl dX5_swing_10 ?_
  refine lv_iconst (v := 2) hx hb dX5_swing_13 (by decide) ?_
  have J1 : ∀ (H : Heap) (locs : List Loc) (ls : Array Slot), va_P (dC, dI) vwCl [zX5 adB adA bs, zAL cO adA 3 lf, zX1 adL adc adp ads adr lmo lha lfo lma lst lou, zX3 adr rpr rpe rsw rce rhe rba rup rsa rri rse rgr rle] H → va_D A [zX5 adB adA bs, zAL cO adA 3 lf, zX1 adL adc adp ads adr lmo lha lfo lma lst lou, zX3 adr rpr rpe rsw rce rhe rba rup rsa rri rse rgr rle] → va_S A s.heap H locs → lv_has ls 3 [(2, .ref adr), (0, .ref adB), (1, .int lp)] → W p l e (headSpec (Cond.code yX5_swing cX5_swing 3 (some .long) :: wAll) ({ frames := 1, cells := 0, slots := 0, locals := 21 })).room s m ([.ref adB, .int lp] : List Value).toArray below meth c H locs 0 0 Q (F0 m 22 ls [.int (f_X5_swing_j1_1 rpr)]) := by
    intro H locs ls hP hD hS hl
    refine hh_callv (w2 := [zX5 adB adA bs, zAL cO adA 3 lf, zX1 adL adc adp ads adr lmo lha lfo lma lst lou, zX3 adr rpr rpe rsw rce rhe rba rup rsa rri rse rgr rle]) (va_runS (As := [.int (f_X5_swing_j1_1 rpr)]) (rest := []) ⟨hx, hb, hml, hown, hts⟩ (c_X5_requireState l dC dI cI cJ cZ cO (f_X5_swing_j1_1 rpr) _ q4) (va_cwS 1 hts (gd_S wd_2_173 wd_2_174 wd_1_1 wd_2_175) rfl rfl rfl (by decide +kernel) ⟨Nat.le_of_ble_eq_true rfl, Nat.le_of_ble_eq_true rfl⟩) (hh_pS gN_c (fun U _ hW => gN_w hW hG) hK hP hD [] rfl rfl) rfl rfl hl.1 rfl (lv_room (Nat.le_of_ble_eq_true rfl)) dX5_swing_22 ⟨Nat.le_of_ble_eq_true rfl, Nat.le_of_ble_eq_true rfl⟩) hP hD hS hA [] [0, 1, 2, 3] [0, 1, 2, 3] rfl rfl rfl (by decide) rfl rfl (fun H locs hP hD hS => ?_)
    refine lv_aload_n hx hb dX5_swing_25 rfl (lv_at hl 0 rfl) ?_
    refine va_get (D := (dC, dI)) (ci := 3) (v := .long rsw) (C := RX3) (T := TX3) (N := 12) hx hb hts inW_X3 hown hK hP 3 rfl rfl 2 (by decide) (hts _ wd_1_177) (fun _ h9 => h9) rfl dX5_swing_26 ?_
    exact hh_retl hQ (rfl) hx hb hr hlocks hP hK hD hS dX5_swing_29
  refine lv_icmp_ne (tgt := 21) hx hb dX5_swing_14 (by decide) (fun h1 => ?_) (fun h1 => ?_)
  · skip
    refine lv_iconst (v := 0) hx hb dX5_swing_21 (by decide) ?_
    have e2 : (f_X5_swing_j1_1 rpr) = (0 : Int32) := if_neg h1
    refine hh_seti (y := (f_X5_swing_j1_1 rpr)) (if_neg h1) ?_
    exact J1 _ _ _ (hP) (hD) hS (lv_sub hl [0, 1, 2] rfl)
  · skip
    refine lv_iconst (v := 1) hx hb dX5_swing_17 (by decide) ?_
    refine lv_goto (tgt := 22) hx hb dX5_swing_18 (by decide) ?_
    have e3 : (f_X5_swing_j1_1 rpr) = (1 : Int32) := if_pos h1
    refine hh_seti (y := (f_X5_swing_j1_1 rpr)) (if_pos h1) ?_
    exact J1 _ _ _ (hP) (hD) hS (lv_sub hl [0, 1, 2] rfl)
def f_X5_ultimateGain_j1_1 (rpr : Int32) (rsw : Int64) : Int32 := if rpr = (2 : Int32) then (if rsw ≤ (0 : Int64) then (0 : Int32) else (1 : Int32)) else (0 : Int32)
theorem f_X5_ultimateGain_j1_1_z (rpr : Int32) (rsw : Int64) : narrow .boolean (.int (f_X5_ultimateGain_j1_1 rpr rsw)) = .int (f_X5_ultimateGain_j1_1 rpr rsw) := by
  unfold f_X5_ultimateGain_j1_1
  repeat' split
  all_goals rfl
def f_X5_ultimateGain_r (rsw : Int64) (rhe : Int32) : Int32 := (f_X3_gainAtTheEdge_j1_1 rsw rhe).toInt32
set_option maxHeartbeats 4000000 in
set_option maxRecDepth 100000 in
theorem c_X5_ultimateGain (l : Launch) (dC : Nat → ClassId) (dI : Nat → Nat → Nat) (cI cJ cZ cO : ClassId) (adB adA : Nat) (bs : Int32) (lf : Nat → Option Nat) (adL adc adp ads adr : Nat) (lmo : Int32) (lha : Int64) (lfo lma lst : Int32) (lou : Int64) (rpr rpe : Int32) (rsw rce : Int64) (rhe rba rup rsa rri rse : Int32) (rgr rle : Int64) (lp : Int32) (sz : Nat) (hl0 : ¬ lp < (0 : Int32)) (hl3 : lp < (3 : Int32)) (hlf : lf lp.toNatClampNeg = some adL) (hsw : rsw ≤ (2000000 : Int64)) (q5 : ¬ (f_X5_ultimateGain_j1_1 rpr rsw) = (0 : Int32)) : Met l yX5_ultimateGain (Cond.code yX5_ultimateGain cX5_ultimateGain 3 (some .int) :: wAll) ({ frames := 2, cells := 0, slots := 0, locals := 45 }) (va_Pc [.ref adB, .int lp] (gP (dC, dI) [zX5 adB adA bs, zAL cO adA 3 lf, zX1 adL adc adp ads adr lmo lha lfo lma lst lou, zX3 adr rpr rpe rsw rce rhe rba rup rsa rri rse rgr rle] (tyG cI cJ cZ cO) sz gN)) (va_Qi (fun r (_ : Unit) => r = (f_X5_ultimateGain_r rsw rhe)) (fun _ t => gB (dC, dI) (va_A [zX5 adB adA bs, zAL cO adA 3 lf, zX1 adL adc adp ads adr lmo lha lfo lma lst lou, zX3 adr rpr rpe rsw rce rhe rba rup rsa rri rse rgr rle] sz) [zX5 adB adA bs, zAL cO adA 3 lf, zX1 adL adc adp ads adr lmo lha lfo lma lst lou, zX3 adr rpr rpe rsw rce rhe rba rup rsa rri rse rgr rle] (tyG cI cJ cZ cO) t) (va_A [zX5 adB adA bs, zAL cO adA 3 lf, zX1 adL adc adp ads adr lmo lha lfo lma lst lou, zX3 adr rpr rpe rsw rce rhe rba rup rsa rri rse rgr rle] sz)) 0 0 (va_A [zX5 adB adA bs, zAL cO adA 3 lf, zX1 adL adc adp ads adr lmo lha lfo lma lst lou, zX3 adr rpr rpe rsw rce rhe rba rup rsa rri rse rgr rle] sz) := by
  refine Met.ofW (cc := cX5_ultimateGain) (maxL := 3) (ret := (some .int)) (by decide) rfl ?_
  intro p e s m args below meth c s₁ B hml hv
  obtain ⟨rfl, hsz, hP, hK, hD0, hG⟩ := hv
  have hx := B.exec
  have hb := B.bytes
  have hr := B.returns
  have hts := ht_of B.pre
  have hown : s.vm.findClass RX5 = some m.cls := findClass_of_methodNamed B.named
  have hlocks := B.notSynchronized
  subst hsz
  have hD := hD0.self (sz := s.heap.size)
  generalize hAe : va_A [zX5 adB adA bs, zAL cO adA 3 lf, zX1 adL adc adp ads adr lmo lha lfo lma lst lou, zX3 adr rpr rpe rsw rce rhe rba rup rsa rri rse rgr rle] s.heap.size = A at hD ⊢
  have hA : ∀ q : Nat, s.heap.size ≤ q → A q := fun q h => by rw [← hAe]; exact Or.inr h
  have hS : va_S A s.heap s.heap [] := va_S.rf
  have hP : va_P (dC, dI) vwCl [zX5 adB adA bs, zAL cO adA 3 lf, zX1 adL adc adp ads adr lmo lha lfo lma lst lou, zX3 adr rpr rpe rsw rce rhe rba rup rsa rri rse rgr rle] s.heap := hP
  have hl := lv_entry ([.ref adB, .int lp]) (n := 3) (Nat.le_of_ble_eq_true rfl)
  rw [lg_entry_eq]
  generalize (lg_sl ([.ref adB, .int lp]) ++ List.replicate (3 - (lg_sl ([.ref adB, .int lp])).length) Slot.unset).toArray = ls at hl ⊢
  have hl : lv_has ls 3 [(0, .ref adB), (1, .int lp)] := hl
  refine hh_name (fun Q hQ => ?_)
  refine lv_aload_n hx hb dX5_ultimateGain_0 rfl (lv_at hl 0 rfl) ?_
  refine lv_iload_n hx hb dX5_ultimateGain_1 rfl (lv_at hl 1 rfl) ?_
  refine hh_callq (w2 := [zX5 adB adA bs, zAL cO adA 3 lf, zX1 adL adc adp ads adr lmo lha lfo lma lst lou, zX3 adr rpr rpe rsw rce rhe rba rup rsa rri rse rgr rle]) (va_runV (As := [.int lp]) (rest := []) ⟨hx, hb, hml, hown, hts⟩ (c_X5_loopAt l dC dI cI cJ cZ cO adB adA bs lf lp adL _ hl0 hl3 hlf) (cwV 1 hts (gd_V wd_2_38 wd_2_40 wd_p_0 wd_1_1 wd_2_41) rfl rfl rfl (by decide +kernel) ⟨Nat.le_of_ble_eq_true rfl, Nat.le_of_ble_eq_true rfl⟩) (hh_pV (ci := 5) (q := (RX5, TX5, 2)) (q0 := 0) rfl rfl gN_c (fun U _ hW => gN_w hW hG) hK hP hD [0, 1] rfl rfl) rfl rfl hl.1 rfl (lv_room (Nat.le_of_ble_eq_true rfl)) dX5_ultimateGain_2 ⟨Nat.le_of_ble_eq_true rfl, Nat.le_of_ble_eq_true rfl⟩) hP hD hS hA [0, 1] [2, 3] [2, 3, 0, 1] rfl rfl rfl (by decide) rfl rfl (fun H locs hP hD hS => ?_)
  refine hh_setv (y := .ref adL) rfl ?_
  refine va_get (D := (dC, dI)) (ci := 1) (v := .ref adr) (C := RX1) (T := TX1) (N := 10) hx hb hts inW_X1 hown hK hP 2 rfl rfl 3 (by decide) (hts _ wd_1_220) (fun _ h9 => h9) rfl dX5_ultimateGain_5 ?_
  refine lv_astore_n (lv' := [(2, .ref adr), (0, .ref adB), (1, .int lp)]) hx hb dX5_ultimateGain_8 rfl hl (by decide) rfl (fun ls hl => ?_)
  refine lv_aload_n hx hb dX5_ultimateGain_9 rfl (lv_at hl 0 rfl) ?_
  refine va_get (D := (dC, dI)) (ci := 3) (v := .int rpr) (C := RX3) (T := TX3) (N := 12) hx hb hts inW_X3 hown hK hP 3 rfl rfl 0 (by decide) (hts _ wd_1_173) (fun _ h9 => h9) rfl dX5_ultimateGain_10 ?_
  refine lv_iconst (v := 2) hx hb dX5_ultimateGain_13 (by decide) ?_
  have J1 : ∀ (H : Heap) (locs : List Loc) (ls : Array Slot), va_P (dC, dI) vwCl [zX5 adB adA bs, zAL cO adA 3 lf, zX1 adL adc adp ads adr lmo lha lfo lma lst lou, zX3 adr rpr rpe rsw rce rhe rba rup rsa rri rse rgr rle] H → va_D A [zX5 adB adA bs, zAL cO adA 3 lf, zX1 adL adc adp ads adr lmo lha lfo lma lst lou, zX3 adr rpr rpe rsw rce rhe rba rup rsa rri rse rgr rle] → va_S A s.heap H locs → lv_has ls 3 [(2, .ref adr), (0, .ref adB), (1, .int lp)] → W p l e (headSpec (Cond.code yX5_ultimateGain cX5_ultimateGain 3 (some .int) :: wAll) ({ frames := 2, cells := 0, slots := 0, locals := 45 })).room s m ([.ref adB, .int lp] : List Value).toArray below meth c H locs 0 0 Q (F0 m 31 ls [.int (f_X5_ultimateGain_j1_1 rpr rsw)]) := by
    intro H locs ls hP hD hS hl
    refine hh_callv (w2 := [zX5 adB adA bs, zAL cO adA 3 lf, zX1 adL adc adp ads adr lmo lha lfo lma lst lou, zX3 adr rpr rpe rsw rce rhe rba rup rsa rri rse rgr rle]) (va_runS (As := [.int (f_X5_ultimateGain_j1_1 rpr rsw)]) (rest := []) ⟨hx, hb, hml, hown, hts⟩ (c_X5_requireState l dC dI cI cJ cZ cO (f_X5_ultimateGain_j1_1 rpr rsw) _ q5) (va_cwS 1 hts (gd_S wd_2_173 wd_2_174 wd_1_1 wd_2_175) rfl rfl rfl (by decide +kernel) ⟨Nat.le_of_ble_eq_true rfl, Nat.le_of_ble_eq_true rfl⟩) (hh_pS gN_c (fun U _ hW => gN_w hW hG) hK hP hD [] rfl rfl) rfl rfl hl.1 rfl (lv_room (Nat.le_of_ble_eq_true rfl)) dX5_ultimateGain_31 ⟨Nat.le_of_ble_eq_true rfl, Nat.le_of_ble_eq_true rfl⟩) hP hD hS hA [] [0, 1, 2, 3] [0, 1, 2, 3] rfl rfl rfl (by decide) rfl rfl (fun H locs hP hD hS => ?_)
    refine lv_aload_n hx hb dX5_ultimateGain_34 rfl (lv_at hl 0 rfl) ?_
    refine hh_calll (w2 := [zX5 adB adA bs, zAL cO adA 3 lf, zX1 adL adc adp ads adr lmo lha lfo lma lst lou, zX3 adr rpr rpe rsw rce rhe rba rup rsa rri rse rgr rle]) (va_runV (As := []) (rest := []) ⟨hx, hb, hml, hown, hts⟩ (c_X3_gainAtTheEdge l dC dI cI cJ cZ cO adr rpr rpe rsw rce rhe rba rup rsa rri rse rgr rle _ hsw) (cwV 0 hts (gd_V wd_3_204 wd_3_205 wd_3_206 wd_1_6 wd_3_207) rfl rfl rfl (by decide +kernel) ⟨Nat.le_of_ble_eq_true rfl, Nat.le_of_ble_eq_true rfl⟩) (hh_pV (ci := 3) (q := (RX3, TX3, 12)) (q0 := 3) rfl rfl gN_c (fun U _ hW => gN_w hW hG) hK hP hD [3] rfl rfl) rfl rfl hl.1 rfl (lv_room (Nat.le_of_ble_eq_true rfl)) dX5_ultimateGain_35 ⟨Nat.le_of_ble_eq_true rfl, Nat.le_of_ble_eq_true rfl⟩) hP hD hS hA [3] [0, 1, 2] [0, 1, 2, 3] rfl rfl rfl (by decide) rfl rfl (fun H locs hP hD hS => ?_)
    refine lv_l2i hx hb dX5_ultimateGain_38 rfl ?_
    exact hh_reti hQ (rfl) hx hb hr hlocks hP hK hD hS dX5_ultimateGain_39
  refine lv_icmp_ne (tgt := 30) hx hb dX5_ultimateGain_14 (by decide) (fun h1 => ?_) (fun h1 => ?_)
  · skip
    refine lv_iconst (v := 0) hx hb dX5_ultimateGain_30 (by decide) ?_
    have e3 : (f_X5_ultimateGain_j1_1 rpr rsw) = (0 : Int32) := if_neg h1
    refine hh_seti (y := (f_X5_ultimateGain_j1_1 rpr rsw)) (if_neg h1) ?_
    exact J1 _ _ _ (hP) (hD) hS (lv_sub hl [0, 1, 2] rfl)
  · skip
    refine lv_aload_n hx hb dX5_ultimateGain_17 rfl (lv_at hl 0 rfl) ?_
    refine va_get (D := (dC, dI)) (ci := 3) (v := .long rsw) (C := RX3) (T := TX3) (N := 12) hx hb hts inW_X3 hown hK hP 3 rfl rfl 2 (by decide) (hts _ wd_1_177) (fun _ h9 => h9) rfl dX5_ultimateGain_18 ?_
    refine lv_lconst (v := 0) hx hb dX5_ultimateGain_21 (by decide) ?_
    refine hh_cle (tgt := 30) hx hb dX5_ultimateGain_22 dX5_ultimateGain_23 (by decide) (fun h2 => ?_) (fun h2 => ?_)
    · skip
      refine lv_iconst (v := 0) hx hb dX5_ultimateGain_30 (by decide) ?_
      have e4 : (f_X5_ultimateGain_j1_1 rpr rsw) = (0 : Int32) := (if_pos h1).trans (if_pos h2)
      refine hh_seti (y := (f_X5_ultimateGain_j1_1 rpr rsw)) ((if_pos h1).trans (if_pos h2)) ?_
      exact J1 _ _ _ (hP) (hD) hS (lv_sub hl [0, 1, 2] rfl)
    · skip
      refine lv_iconst (v := 1) hx hb dX5_ultimateGain_26 (by decide) ?_
      refine lv_goto (tgt := 31) hx hb dX5_ultimateGain_27 (by decide) ?_
      have e5 : (f_X5_ultimateGain_j1_1 rpr rsw) = (1 : Int32) := (if_pos h1).trans (if_neg h2)
      refine hh_seti (y := (f_X5_ultimateGain_j1_1 rpr rsw)) ((if_pos h1).trans (if_neg h2)) ?_
      exact J1 _ _ _ (hP) (hD) hS (lv_sub hl [0, 1, 2] rfl)
def f_X5_proposed_j1_1 (rpr rpe : Int32) (rsw : Int64) : Int32 := if rpr = (2 : Int32) then (if rsw ≤ (0 : Int64) then (0 : Int32) else (if rpe ≤ (0 : Int32) then (0 : Int32) else (1 : Int32))) else (0 : Int32)
theorem f_X5_proposed_j1_1_z (rpr rpe : Int32) (rsw : Int64) : narrow .boolean (.int (f_X5_proposed_j1_1 rpr rpe rsw)) = .int (f_X5_proposed_j1_1 rpr rpe rsw) := by
  unfold f_X5_proposed_j1_1
  repeat' split
  all_goals rfl
def f_X5_proposed_r (rpe : Int32) (rsw : Int64) (rhe ruv wh : Int32) : Int32 := if wh = (0 : Int32) then (if (20000 : Int64) < (f_X3_proposedP_j1_1 rsw rhe ruv) then (20000 : Int64) else (f_X3_proposedP_j1_1 rsw rhe ruv)).toInt32 else (if wh = (1 : Int32) then (if (5000 : Int64) < (f_X3_proposedI_r rpe rsw rhe ruv) then (5000 : Int64) else (f_X3_proposedI_r rpe rsw rhe ruv)).toInt32 else (if (50000 : Int64) < (f_X3_proposedD_j1_1 rpe rsw rhe ruv) then (50000 : Int64) else (f_X3_proposedD_j1_1 rpe rsw rhe ruv)).toInt32)
set_option maxHeartbeats 4000000 in
set_option maxRecDepth 100000 in
theorem c_X5_proposed (l : Launch) (dC : Nat → ClassId) (dI : Nat → Nat → Nat) (cI cJ cZ cO : ClassId) (adB adA : Nat) (bs : Int32) (lf : Nat → Option Nat) (adL adc adp ads adr : Nat) (lmo : Int32) (lha : Int64) (lfo lma lst : Int32) (lou : Int64) (rpr rpe : Int32) (rsw rce : Int64) (rhe rba rup rsa rri rse : Int32) (rgr rle : Int64) (lp ruv wh : Int32) (sz : Nat) (hl0 : ¬ lp < (0 : Int32)) (hl3 : lp < (3 : Int32)) (hlf : lf lp.toNatClampNeg = some adL) (hsw : rsw ≤ (2000000 : Int64)) (q5 : ¬ wh < (0 : Int32)) (q6 : wh ≤ (2 : Int32)) (q7 : ¬ ruv < (0 : Int32)) (q8 : ¬ (1 : Int32) < ruv) (q9 : ¬ (f_X5_proposed_j1_1 rpr rpe rsw) = (0 : Int32)) : Met l yX5_proposed (Cond.code yX5_proposed cX5_proposed 5 (some .int) :: wAll) ({ frames := 3, cells := 0, slots := 0, locals := 68 }) (va_Pc [.ref adB, .int lp, .int ruv, .int wh] (gP (dC, dI) [zX5 adB adA bs, zAL cO adA 3 lf, zX1 adL adc adp ads adr lmo lha lfo lma lst lou, zX3 adr rpr rpe rsw rce rhe rba rup rsa rri rse rgr rle] (tyG cI cJ cZ cO) sz gN)) (va_Qi (fun r (_ : Unit) => r = (f_X5_proposed_r rpe rsw rhe ruv wh)) (fun _ t => gB (dC, dI) (va_A [zX5 adB adA bs, zAL cO adA 3 lf, zX1 adL adc adp ads adr lmo lha lfo lma lst lou, zX3 adr rpr rpe rsw rce rhe rba rup rsa rri rse rgr rle] sz) [zX5 adB adA bs, zAL cO adA 3 lf, zX1 adL adc adp ads adr lmo lha lfo lma lst lou, zX3 adr rpr rpe rsw rce rhe rba rup rsa rri rse rgr rle] (tyG cI cJ cZ cO) t) (va_A [zX5 adB adA bs, zAL cO adA 3 lf, zX1 adL adc adp ads adr lmo lha lfo lma lst lou, zX3 adr rpr rpe rsw rce rhe rba rup rsa rri rse rgr rle] sz)) 0 0 (va_A [zX5 adB adA bs, zAL cO adA 3 lf, zX1 adL adc adp ads adr lmo lha lfo lma lst lou, zX3 adr rpr rpe rsw rce rhe rba rup rsa rri rse rgr rle] sz) := by
  refine Met.ofW (cc := cX5_proposed) (maxL := 5) (ret := (some .int)) (by decide) rfl ?_
  intro p e s m args below meth c s₁ B hml hv
  obtain ⟨rfl, hsz, hP, hK, hD0, hG⟩ := hv
  have hx := B.exec
  have hb := B.bytes
  have hr := B.returns
  have hts := ht_of B.pre
  have hown : s.vm.findClass RX5 = some m.cls := findClass_of_methodNamed B.named
  have hlocks := B.notSynchronized
  subst hsz
  have hD := hD0.self (sz := s.heap.size)
  generalize hAe : va_A [zX5 adB adA bs, zAL cO adA 3 lf, zX1 adL adc adp ads adr lmo lha lfo lma lst lou, zX3 adr rpr rpe rsw rce rhe rba rup rsa rri rse rgr rle] s.heap.size = A at hD ⊢
  have hA : ∀ q : Nat, s.heap.size ≤ q → A q := fun q h => by rw [← hAe]; exact Or.inr h
  have hS : va_S A s.heap s.heap [] := va_S.rf
  have hP : va_P (dC, dI) vwCl [zX5 adB adA bs, zAL cO adA 3 lf, zX1 adL adc adp ads adr lmo lha lfo lma lst lou, zX3 adr rpr rpe rsw rce rhe rba rup rsa rri rse rgr rle] s.heap := hP
  have hl := lv_entry ([.ref adB, .int lp, .int ruv, .int wh]) (n := 5) (Nat.le_of_ble_eq_true rfl)
  rw [lg_entry_eq]
  generalize (lg_sl ([.ref adB, .int lp, .int ruv, .int wh]) ++ List.replicate (5 - (lg_sl ([.ref adB, .int lp, .int ruv, .int wh])).length) Slot.unset).toArray = ls at hl ⊢
  have hl : lv_has ls 5 [(0, .ref adB), (1, .int lp), (2, .int ruv), (3, .int wh)] := hl
  refine hh_name (fun Q hQ => ?_)
  refine lv_aload_n hx hb dX5_proposed_0 rfl (lv_at hl 0 rfl) ?_
  refine lv_iload_n hx hb dX5_proposed_1 rfl (lv_at hl 1 rfl) ?_
  refine hh_callq (w2 := [zX5 adB adA bs, zAL cO adA 3 lf, zX1 adL adc adp ads adr lmo lha lfo lma lst lou, zX3 adr rpr rpe rsw rce rhe rba rup rsa rri rse rgr rle]) (va_runV (As := [.int lp]) (rest := []) ⟨hx, hb, hml, hown, hts⟩ (c_X5_loopAt l dC dI cI cJ cZ cO adB adA bs lf lp adL _ hl0 hl3 hlf) (cwV 1 hts (gd_V wd_2_38 wd_2_40 wd_p_0 wd_1_1 wd_2_41) rfl rfl rfl (by decide +kernel) ⟨Nat.le_of_ble_eq_true rfl, Nat.le_of_ble_eq_true rfl⟩) (hh_pV (ci := 5) (q := (RX5, TX5, 2)) (q0 := 0) rfl rfl gN_c (fun U _ hW => gN_w hW hG) hK hP hD [0, 1] rfl rfl) rfl rfl hl.1 rfl (lv_room (Nat.le_of_ble_eq_true rfl)) dX5_proposed_2 ⟨Nat.le_of_ble_eq_true rfl, Nat.le_of_ble_eq_true rfl⟩) hP hD hS hA [0, 1] [2, 3] [2, 3, 0, 1] rfl rfl rfl (by decide) rfl rfl (fun H locs hP hD hS => ?_)
  refine hh_setv (y := .ref adL) rfl ?_
  refine va_get (D := (dC, dI)) (ci := 1) (v := .ref adr) (C := RX1) (T := TX1) (N := 10) hx hb hts inW_X1 hown hK hP 2 rfl rfl 3 (by decide) (hts _ wd_1_220) (fun _ h9 => h9) rfl dX5_proposed_5 ?_
  refine lv_astore (lv' := [(4, .ref adr), (0, .ref adB), (1, .int lp), (2, .int ruv), (3, .int wh)]) hx hb dX5_proposed_8 hl (by decide) rfl (fun ls hl => ?_)
  refine lv_iload_n hx hb dX5_proposed_10 rfl (lv_at hl 4 rfl) ?_
  refine hh_callv (w2 := [zX5 adB adA bs, zAL cO adA 3 lf, zX1 adL adc adp ads adr lmo lha lfo lma lst lou, zX3 adr rpr rpe rsw rce rhe rba rup rsa rri rse rgr rle]) (va_runS (As := [.int wh]) (rest := []) ⟨hx, hb, hml, hown, hts⟩ (c_X5_requireGainNumber l dC dI cI cJ cZ cO wh _ q5 q6) (va_cwS 1 hts (gd_S wd_2_160 wd_2_161 wd_1_1 wd_2_162) rfl rfl rfl (by decide +kernel) ⟨Nat.le_of_ble_eq_true rfl, Nat.le_of_ble_eq_true rfl⟩) (hh_pS gN_c (fun U _ hW => gN_w hW hG) hK hP hD [] rfl rfl) rfl rfl hl.1 rfl (lv_room (Nat.le_of_ble_eq_true rfl)) dX5_proposed_11 ⟨Nat.le_of_ble_eq_true rfl, Nat.le_of_ble_eq_true rfl⟩) hP hD hS hA [] [0, 1, 2, 3] [0, 1, 2, 3] rfl rfl rfl (by decide) rfl rfl (fun H locs hP hD hS => ?_)
  refine lv_iload_n hx hb dX5_proposed_14 rfl (lv_at hl 3 rfl) ?_
  refine lv_iconst (v := 0) hx hb dX5_proposed_15 (by decide) ?_
  refine lv_iconst (v := 1) hx hb dX5_proposed_16 (by decide) ?_
  refine hh_callv (w2 := [zX5 adB adA bs, zAL cO adA 3 lf, zX1 adL adc adp ads adr lmo lha lfo lma lst lou, zX3 adr rpr rpe rsw rce rhe rba rup rsa rri rse rgr rle]) (va_runS (As := [.int ruv, .int (0 : Int32), .int (1 : Int32)]) (rest := []) ⟨hx, hb, hml, hown, hts⟩ (c_X5_requireWithin l dC dI cI cJ cZ cO ruv (0 : Int32) (1 : Int32) _ q7 q8) (va_cwS 3 hts (gd_S wd_2_110 wd_2_111 wd_1_1 wd_2_112) rfl rfl rfl (by decide +kernel) ⟨Nat.le_of_ble_eq_true rfl, Nat.le_of_ble_eq_true rfl⟩) (hh_pS gN_c (fun U _ hW => gN_w hW hG) hK hP hD [] rfl rfl) rfl rfl hl.1 rfl (lv_room (Nat.le_of_ble_eq_true rfl)) dX5_proposed_17 ⟨Nat.le_of_ble_eq_true rfl, Nat.le_of_ble_eq_true rfl⟩) hP hD hS hA [] [0, 1, 2, 3] [0, 1, 2, 3] rfl rfl rfl (by decide) rfl rfl (fun H locs hP hD hS => ?_)
  refine lv_aload hx hb dX5_proposed_20 (lv_at hl 0 rfl) ?_
  refine va_get (D := (dC, dI)) (ci := 3) (v := .int rpr) (C := RX3) (T := TX3) (N := 12) hx hb hts inW_X3 hown hK hP 3 rfl rfl 0 (by decide) (hts _ wd_1_173) (fun _ h9 => h9) rfl dX5_proposed_22 ?_
  refine lv_iconst (v := 2) hx hb dX5_proposed_25 (by decide) ?_
  have J1 : ∀ (H : Heap) (locs : List Loc) (ls : Array Slot), va_P (dC, dI) vwCl [zX5 adB adA bs, zAL cO adA 3 lf, zX1 adL adc adp ads adr lmo lha lfo lma lst lou, zX3 adr rpr rpe rsw rce rhe rba rup rsa rri rse rgr rle] H → va_D A [zX5 adB adA bs, zAL cO adA 3 lf, zX1 adL adc adp ads adr lmo lha lfo lma lst lou, zX3 adr rpr rpe rsw rce rhe rba rup rsa rri rse rgr rle] → va_S A s.heap H locs → lv_has ls 5 [(4, .ref adr), (0, .ref adB), (1, .int lp), (2, .int ruv), (3, .int wh)] → W p l e (headSpec (Cond.code yX5_proposed cX5_proposed 5 (some .int) :: wAll) ({ frames := 3, cells := 0, slots := 0, locals := 68 })).room s m ([.ref adB, .int lp, .int ruv, .int wh] : List Value).toArray below meth c H locs 0 0 Q (F0 m 52 ls [.int (f_X5_proposed_j1_1 rpr rpe rsw)]) := by
    intro H locs ls hP hD hS hl
    refine hh_callv (w2 := [zX5 adB adA bs, zAL cO adA 3 lf, zX1 adL adc adp ads adr lmo lha lfo lma lst lou, zX3 adr rpr rpe rsw rce rhe rba rup rsa rri rse rgr rle]) (va_runS (As := [.int (f_X5_proposed_j1_1 rpr rpe rsw)]) (rest := []) ⟨hx, hb, hml, hown, hts⟩ (c_X5_requireState l dC dI cI cJ cZ cO (f_X5_proposed_j1_1 rpr rpe rsw) _ q9) (va_cwS 1 hts (gd_S wd_2_173 wd_2_174 wd_1_1 wd_2_175) rfl rfl rfl (by decide +kernel) ⟨Nat.le_of_ble_eq_true rfl, Nat.le_of_ble_eq_true rfl⟩) (hh_pS gN_c (fun U _ hW => gN_w hW hG) hK hP hD [] rfl rfl) rfl rfl hl.1 rfl (lv_room (Nat.le_of_ble_eq_true rfl)) dX5_proposed_52 ⟨Nat.le_of_ble_eq_true rfl, Nat.le_of_ble_eq_true rfl⟩) hP hD hS hA [] [0, 1, 2, 3] [0, 1, 2, 3] rfl rfl rfl (by decide) rfl rfl (fun H locs hP hD hS => ?_)
    refine lv_iload_n hx hb dX5_proposed_55 rfl (lv_at hl 4 rfl) ?_
    refine lv_if_ne (tgt := 73) hx hb dX5_proposed_56 (by decide) (fun h4 => ?_) (fun h4 => ?_)
    · skip
      refine lv_iload_n hx hb dX5_proposed_73 rfl (lv_at hl 4 rfl) ?_
      refine lv_iconst (v := 1) hx hb dX5_proposed_74 (by decide) ?_
      refine lv_icmp_ne (tgt := 92) hx hb dX5_proposed_75 (by decide) (fun h5 => ?_) (fun h5 => ?_)
      · skip
        refine lv_aload hx hb dX5_proposed_92 (lv_at hl 0 rfl) ?_
        refine lv_iload_n hx hb dX5_proposed_94 rfl (lv_at hl 3 rfl) ?_
        refine hh_calll (w2 := [zX5 adB adA bs, zAL cO adA 3 lf, zX1 adL adc adp ads adr lmo lha lfo lma lst lou, zX3 adr rpr rpe rsw rce rhe rba rup rsa rri rse rgr rle]) (va_runV (As := [.int ruv]) (rest := []) ⟨hx, hb, hml, hown, hts⟩ (c_X3_proposedD l dC dI cI cJ cZ cO adr rpr rpe rsw rce rhe rba rup rsa rri rse rgr rle ruv _ hsw) (cwV 1 hts (gd_V wd_3_238 wd_3_239 wd_4_0 wd_1_6 wd_4_1) rfl rfl rfl (by decide +kernel) ⟨Nat.le_of_ble_eq_true rfl, Nat.le_of_ble_eq_true rfl⟩) (hh_pV (ci := 3) (q := (RX3, TX3, 12)) (q0 := 3) rfl rfl gN_c (fun U _ hW => gN_w hW hG) hK hP hD [3] rfl rfl) rfl rfl hl.1 rfl (lv_room (Nat.le_of_ble_eq_true rfl)) dX5_proposed_95 ⟨Nat.le_of_ble_eq_true rfl, Nat.le_of_ble_eq_true rfl⟩) hP hD hS hA [3] [0, 1, 2] [0, 1, 2, 3] rfl rfl rfl (by decide) rfl rfl (fun H locs hP hD hS => ?_)
        refine lv_ldc2 (v := 50000) hx hb hown (hts _ wd_4_5) dX5_proposed_98 ?_
        refine va_mmin_long hx hb (hml.trans hl.1.symm) hown (hts _ wd_3_89) (hts _ wd_3_90) (hts _ wd_1_13) (hts _ wd_3_91) (Nat.le_of_ble_eq_true rfl) (Nat.le_of_ble_eq_true rfl) (Nat.le_of_ble_eq_true rfl) (Nat.le_of_ble_eq_true rfl) dX5_proposed_101 ?_
        refine lv_l2i hx hb dX5_proposed_104 rfl ?_
        exact hh_reti hQ (((if_neg h4).trans (if_neg h5)).symm) hx hb hr hlocks hP hK hD hS dX5_proposed_105
      · skip
        refine lv_aload hx hb dX5_proposed_78 (lv_at hl 0 rfl) ?_
        refine lv_iload_n hx hb dX5_proposed_80 rfl (lv_at hl 3 rfl) ?_
        refine hh_calll (w2 := [zX5 adB adA bs, zAL cO adA 3 lf, zX1 adL adc adp ads adr lmo lha lfo lma lst lou, zX3 adr rpr rpe rsw rce rhe rba rup rsa rri rse rgr rle]) (va_runV (As := [.int ruv]) (rest := []) ⟨hx, hb, hml, hown, hts⟩ (c_X3_proposedI l dC dI cI cJ cZ cO adr rpr rpe rsw rce rhe rba rup rsa rri rse rgr rle ruv _ hsw) (cwV 1 hts (gd_V wd_3_230 wd_3_231 wd_3_232 wd_1_6 wd_3_233) rfl rfl rfl (by decide +kernel) ⟨Nat.le_of_ble_eq_true rfl, Nat.le_of_ble_eq_true rfl⟩) (hh_pV (ci := 3) (q := (RX3, TX3, 12)) (q0 := 3) rfl rfl gN_c (fun U _ hW => gN_w hW hG) hK hP hD [3] rfl rfl) rfl rfl hl.1 rfl (lv_room (Nat.le_of_ble_eq_true rfl)) dX5_proposed_81 ⟨Nat.le_of_ble_eq_true rfl, Nat.le_of_ble_eq_true rfl⟩) hP hD hS hA [3] [0, 1, 2] [0, 1, 2, 3] rfl rfl rfl (by decide) rfl rfl (fun H locs hP hD hS => ?_)
        refine lv_ldc2 (v := 5000) hx hb hown (hts _ wd_3_237) dX5_proposed_84 ?_
        refine va_mmin_long hx hb (hml.trans hl.1.symm) hown (hts _ wd_3_89) (hts _ wd_3_90) (hts _ wd_1_13) (hts _ wd_3_91) (Nat.le_of_ble_eq_true rfl) (Nat.le_of_ble_eq_true rfl) (Nat.le_of_ble_eq_true rfl) (Nat.le_of_ble_eq_true rfl) dX5_proposed_87 ?_
        refine lv_l2i hx hb dX5_proposed_90 rfl ?_
        exact hh_reti hQ (((if_neg h4).trans (if_pos h5)).symm) hx hb hr hlocks hP hK hD hS dX5_proposed_91
    · skip
      refine lv_aload hx hb dX5_proposed_59 (lv_at hl 0 rfl) ?_
      refine lv_iload_n hx hb dX5_proposed_61 rfl (lv_at hl 3 rfl) ?_
      refine hh_calll (w2 := [zX5 adB adA bs, zAL cO adA 3 lf, zX1 adL adc adp ads adr lmo lha lfo lma lst lou, zX3 adr rpr rpe rsw rce rhe rba rup rsa rri rse rgr rle]) (va_runV (As := [.int ruv]) (rest := []) ⟨hx, hb, hml, hown, hts⟩ (c_X3_proposedP l dC dI cI cJ cZ cO adr rpr rpe rsw rce rhe rba rup rsa rri rse rgr rle ruv _ hsw) (cwV 1 hts (gd_V wd_3_221 wd_3_222 wd_3_223 wd_1_6 wd_3_224) rfl rfl rfl (by decide +kernel) ⟨Nat.le_of_ble_eq_true rfl, Nat.le_of_ble_eq_true rfl⟩) (hh_pV (ci := 3) (q := (RX3, TX3, 12)) (q0 := 3) rfl rfl gN_c (fun U _ hW => gN_w hW hG) hK hP hD [3] rfl rfl) rfl rfl hl.1 rfl (lv_room (Nat.le_of_ble_eq_true rfl)) dX5_proposed_62 ⟨Nat.le_of_ble_eq_true rfl, Nat.le_of_ble_eq_true rfl⟩) hP hD hS hA [3] [0, 1, 2] [0, 1, 2, 3] rfl rfl rfl (by decide) rfl rfl (fun H locs hP hD hS => ?_)
      refine lv_ldc2 (v := 20000) hx hb hown (hts _ wd_3_229) dX5_proposed_65 ?_
      refine va_mmin_long hx hb (hml.trans hl.1.symm) hown (hts _ wd_3_89) (hts _ wd_3_90) (hts _ wd_1_13) (hts _ wd_3_91) (Nat.le_of_ble_eq_true rfl) (Nat.le_of_ble_eq_true rfl) (Nat.le_of_ble_eq_true rfl) (Nat.le_of_ble_eq_true rfl) dX5_proposed_68 ?_
      refine lv_l2i hx hb dX5_proposed_71 rfl ?_
      exact hh_reti hQ ((if_pos h4).symm) hx hb hr hlocks hP hK hD hS dX5_proposed_72
  refine lv_icmp_ne (tgt := 51) hx hb dX5_proposed_26 (by decide) (fun h1 => ?_) (fun h1 => ?_)
  · skip
    refine lv_iconst (v := 0) hx hb dX5_proposed_51 (by decide) ?_
    have e6 : (f_X5_proposed_j1_1 rpr rpe rsw) = (0 : Int32) := if_neg h1
    refine hh_seti (y := (f_X5_proposed_j1_1 rpr rpe rsw)) (if_neg h1) ?_
    exact J1 _ _ _ (hP) (hD) hS (lv_sub hl [0, 1, 2, 3, 4] rfl)
  · skip
    refine lv_aload hx hb dX5_proposed_29 (lv_at hl 0 rfl) ?_
    refine va_get (D := (dC, dI)) (ci := 3) (v := .long rsw) (C := RX3) (T := TX3) (N := 12) hx hb hts inW_X3 hown hK hP 3 rfl rfl 2 (by decide) (hts _ wd_1_177) (fun _ h9 => h9) rfl dX5_proposed_31 ?_
    refine lv_lconst (v := 0) hx hb dX5_proposed_34 (by decide) ?_
    refine hh_cle (tgt := 51) hx hb dX5_proposed_35 dX5_proposed_36 (by decide) (fun h2 => ?_) (fun h2 => ?_)
    · skip
      refine lv_iconst (v := 0) hx hb dX5_proposed_51 (by decide) ?_
      have e7 : (f_X5_proposed_j1_1 rpr rpe rsw) = (0 : Int32) := (if_pos h1).trans (if_pos h2)
      refine hh_seti (y := (f_X5_proposed_j1_1 rpr rpe rsw)) ((if_pos h1).trans (if_pos h2)) ?_
      exact J1 _ _ _ (hP) (hD) hS (lv_sub hl [0, 1, 2, 3, 4] rfl)
    · skip
      refine lv_aload hx hb dX5_proposed_39 (lv_at hl 0 rfl) ?_
      refine va_get (D := (dC, dI)) (ci := 3) (v := .int rpe) (C := RX3) (T := TX3) (N := 12) hx hb hts inW_X3 hown hK hP 3 rfl rfl 1 (by decide) (hts _ wd_1_175) (fun _ h9 => h9) rfl dX5_proposed_41 ?_
      refine lv_if_le (tgt := 51) hx hb dX5_proposed_44 (by decide) (fun h3 => ?_) (fun h3 => ?_)
      · skip
        refine lv_iconst (v := 0) hx hb dX5_proposed_51 (by decide) ?_
        have e8 : (f_X5_proposed_j1_1 rpr rpe rsw) = (0 : Int32) := (if_pos h1).trans ((if_neg h2).trans (if_pos h3))
        refine hh_seti (y := (f_X5_proposed_j1_1 rpr rpe rsw)) ((if_pos h1).trans ((if_neg h2).trans (if_pos h3))) ?_
        exact J1 _ _ _ (hP) (hD) hS (lv_sub hl [0, 1, 2, 3, 4] rfl)
      · skip
        refine lv_iconst (v := 1) hx hb dX5_proposed_47 (by decide) ?_
        refine lv_goto (tgt := 52) hx hb dX5_proposed_48 (by decide) ?_
        have e9 : (f_X5_proposed_j1_1 rpr rpe rsw) = (1 : Int32) := (if_pos h1).trans ((if_neg h2).trans (if_neg h3))
        refine hh_seti (y := (f_X5_proposed_j1_1 rpr rpe rsw)) ((if_pos h1).trans ((if_neg h2).trans (if_neg h3))) ?_
        exact J1 _ _ _ (hP) (hD) hS (lv_sub hl [0, 1, 2, 3, 4] rfl)
