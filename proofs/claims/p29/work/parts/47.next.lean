def lx_next (fw fu : Nat → Int64) (k d : Nat) (me : Int64) : Int64 := f_L_within_j1_1 ((f_L_floor_r ((((fw (20 * k)) * me) + ((fw (20 * k + 1)) * (fw (20 * k + 10)))) + ((fw (20 * k + 2)) * (fu (d + 11 * k)))) (1000 : Int64)) + (fw (20 * k + 4))) (-1000000 : Int64) (1000000 : Int64)
set_option maxHeartbeats 4000000 in
set_option maxRecDepth 100000 in
theorem c_L_next (l : Launch) (dC : Nat → ClassId) (dI : Nat → Nat → Nat) (cI cJ cZ cO : ClassId) (adB adA adW adU adG adN : Nat) (lf : Nat → Option Nat) (a : Nat → AT) (bs : Int32) (T : Nat → LT) (fw fu fg : Nat → Int64) (fn : Nat → Int32) (k : Nat) (me : Int64) (d : Nat) (sz : Nat) (hlf : ∀ j : Nat, j < 3 → lf (nI j).toNatClampNeg = some (ya_adL (a j))) (hk : k < 3) (hd : d < 11) (h3 : (fw (20 * k + 3)).toInt32 = nI d) : Met l yL_next (Cond.code yL_next cL_next 8 (some .long) :: wAll) ({ frames := 1, cells := 0, slots := 0, locals := 25 }) (va_Pc [.ref adW, .ref adU, .int (nI k), .long me] (gP (dC, dI) ([zAJ cJ adW 60 fw, zAJ cJ adU 33 fu, zAJ cJ adG 60 fg, zAI cI adN 6 fn] ++ wB cI cJ cO adB adA lf bs a T) (tyG cI cJ cZ cO) sz gN)) (va_Ql (fun r (_ : Unit) => r = lx_next fw fu k d me) (fun _ t => gB (dC, dI) (va_A ([zAJ cJ adW 60 fw, zAJ cJ adU 33 fu, zAJ cJ adG 60 fg, zAI cI adN 6 fn] ++ wB cI cJ cO adB adA lf bs a T) sz) ([zAJ cJ adW 60 fw, zAJ cJ adU 33 fu, zAJ cJ adG 60 fg, zAI cI adN 6 fn] ++ wB cI cJ cO adB adA lf bs a T) (tyG cI cJ cZ cO) t) (va_A ([zAJ cJ adW 60 fw, zAJ cJ adU 33 fu, zAJ cJ adG 60 fg, zAI cI adN 6 fn] ++ wB cI cJ cO adB adA lf bs a T) sz)) 0 0 (va_A ([zAJ cJ adW 60 fw, zAJ cJ adU 33 fu, zAJ cJ adG 60 fg, zAI cI adN 6 fn] ++ wB cI cJ cO adB adA lf bs a T) sz) := by
  refine Met.ofW (cc := cL_next) (maxL := 8) (ret := (some .long)) (by decide) rfl ?_
  intro p e s m args below meth c s₁ B hml hv
  obtain ⟨rfl, hsz, hP, hK, hD0, hG⟩ := hv
  have hx := B.exec
  have hb := B.bytes
  have hr := B.returns
  have hts := ht_of B.pre
  have hown : s.vm.findClass RL = some m.cls := findClass_of_methodNamed B.named
  have hlocks := B.notSynchronized
  subst hsz
  have hD := hD0.self (sz := s.heap.size)
  generalize hAe : va_A ([zAJ cJ adW 60 fw, zAJ cJ adU 33 fu, zAJ cJ adG 60 fg, zAI cI adN 6 fn] ++ wB cI cJ cO adB adA lf bs a T) s.heap.size = A at hD ⊢
  have hA : ∀ q : Nat, s.heap.size ≤ q → A q := fun q h => by rw [← hAe]; exact Or.inr h
  have hS : va_S A s.heap s.heap [] := va_S.rf
  have hl := lv_entry ([.ref adW, .ref adU, .int (nI k), .long me]) (n := 8) (Nat.le_of_ble_eq_true rfl)
  rw [lg_entry_eq]
  generalize (lg_sl ([.ref adW, .ref adU, .int (nI k), .long me]) ++ List.replicate (8 - (lg_sl ([.ref adW, .ref adU, .int (nI k), .long me])).length) Slot.unset).toArray = ls at hl ⊢
  have hl : lv_has ls 8 [(0, .ref adW), (1, .ref adU), (2, .int (nI k)), (3, .long me)] := hl
  refine hh_name (fun Q hQ => ?_)
  have K := fx_mk hx hb hml hown hts hG hK hlf
  have hcs : (0 : Nat) ≤ 0 ∧ (0 : Nat) ≤ 0 := ⟨Nat.zero_le _, Nat.zero_le _⟩
  refine lv_bipush (v := 20) hx hb dL_next_0 (by decide) ?_
  refine lv_iload_n hx hb dL_next_2 rfl (lv_at hl 2 rfl) ?_
  refine lv_imul hx hb dL_next_3 ?_
  refine hh_seti (y := (nI (20 * k))) (lwMul (a := 20) (b := k) (by omega)) ?_
  refine lv_istore (lv' := [(5, .int (nI (20 * k))), (0, .ref adW), (1, .ref adU), (2, .int (nI k)), (3, .long me)]) hx hb dL_next_4 hl (by decide) rfl (fun ls hl => ?_)
  refine lv_aload_n hx hb dL_next_6 rfl (lv_at hl 1 rfl) ?_
  refine lv_iload hx hb dL_next_7 (lv_at hl 0 rfl) ?_
  refine lr_ll hx hb hK hP 0 1 (e0 := 20 * k) rfl rfl (by omega) (by decide) dL_next_9 ?_
  refine lv_lload_n hx hb dL_next_10 rfl (lv_at hl 4 rfl) ?_
  refine lv_lmul hx hb dL_next_11 ?_
  refine lv_aload_n hx hb dL_next_12 rfl (lv_at hl 1 rfl) ?_
  refine lv_iload hx hb dL_next_13 (lv_at hl 0 rfl) ?_
  refine lv_iconst (v := 1) hx hb dL_next_15 (by decide) ?_
  refine lv_iadd hx hb dL_next_16 ?_
  refine hh_seti (y := (nI (20 * k + 1))) (lwAdd (a := 20 * k) (b := 1) (by omega)) ?_
  refine lr_ll hx hb hK hP 0 1 (e0 := 20 * k + 1) rfl rfl (by omega) (by decide) dL_next_17 ?_
  refine lv_aload_n hx hb dL_next_18 rfl (lv_at hl 1 rfl) ?_
  refine lv_iload hx hb dL_next_19 (lv_at hl 0 rfl) ?_
  refine lv_bipush (v := 10) hx hb dL_next_21 (by decide) ?_
  refine lv_iadd hx hb dL_next_23 ?_
  refine hh_seti (y := (nI (20 * k + 10))) (lwAdd (a := 20 * k) (b := 10) (by omega)) ?_
  refine lr_ll hx hb hK hP 0 1 (e0 := 20 * k + 10) rfl rfl (by omega) (by decide) dL_next_24 ?_
  refine lv_lmul hx hb dL_next_25 ?_
  refine lv_ladd hx hb dL_next_26 ?_
  refine lv_aload_n hx hb dL_next_27 rfl (lv_at hl 1 rfl) ?_
  refine lv_iload hx hb dL_next_28 (lv_at hl 0 rfl) ?_
  refine lv_iconst (v := 2) hx hb dL_next_30 (by decide) ?_
  refine lv_iadd hx hb dL_next_31 ?_
  refine hh_seti (y := (nI (20 * k + 2))) (lwAdd (a := 20 * k) (b := 2) (by omega)) ?_
  refine lr_ll hx hb hK hP 0 1 (e0 := 20 * k + 2) rfl rfl (by omega) (by decide) dL_next_32 ?_
  refine lv_aload_n hx hb dL_next_33 rfl (lv_at hl 2 rfl) ?_
  refine lv_bipush (v := 11) hx hb dL_next_34 (by decide) ?_
  refine lv_iload_n hx hb dL_next_36 rfl (lv_at hl 3 rfl) ?_
  refine lv_imul hx hb dL_next_37 ?_
  refine hh_seti (y := (nI (11 * k))) (lwMul (a := 11) (b := k) (by omega)) ?_
  refine lv_aload_n hx hb dL_next_38 rfl (lv_at hl 1 rfl) ?_
  refine lv_iload hx hb dL_next_39 (lv_at hl 0 rfl) ?_
  refine lv_iconst (v := 3) hx hb dL_next_41 (by decide) ?_
  refine lv_iadd hx hb dL_next_42 ?_
  refine hh_seti (y := (nI (20 * k + 3))) (lwAdd (a := 20 * k) (b := 3) (by omega)) ?_
  refine lr_ll hx hb hK hP 0 1 (e0 := 20 * k + 3) rfl rfl (by omega) (by decide) dL_next_43 ?_
  refine lv_l2i hx hb dL_next_44 rfl ?_
  refine hh_seti (y := nI d) (h3.symm) ?_
  refine lv_iadd hx hb dL_next_45 ?_
  refine hh_seti (y := (nI (d + 11 * k))) (lwAdd (a := 11 * k) (b := d) (by omega)) ?_
  refine lr_ll hx hb hK hP 1 1 (e0 := d + 11 * k) rfl rfl (by omega) (by decide) dL_next_46 ?_
  refine lv_lmul hx hb dL_next_47 ?_
  refine lv_ladd hx hb dL_next_48 ?_
  refine lv_lstore (lv' := [(6, .long ((((fw (20 * k)) * me) + ((fw (20 * k + 1)) * (fw (20 * k + 10)))) + ((fw (20 * k + 2)) * (fu (d + 11 * k))))), (5, .int (nI (20 * k))), (0, .ref adW), (1, .ref adU), (2, .int (nI k)), (3, .long me)]) hx hb dL_next_49 hl (by decide) rfl (fun ls hl => ?_)
  refine lv_lload hx hb dL_next_51 (lv_at hl 0 rfl) ?_
  refine lv_ldc2 (v := 1000) hx hb hown (hts _ wd_3_41) dL_next_53 ?_
  refine lw_El (rv := (f_L_floor_r ((((fw (20 * k)) * me) + ((fw (20 * k + 1)) * (fw (20 * k + 10)))) + ((fw (20 * k + 2)) * (fu (d + 11 * k)))) (1000 : Int64))) (rest := []) (va_runS (As := [.long ((((fw (20 * k)) * me) + ((fw (20 * k + 1)) * (fw (20 * k + 10)))) + ((fw (20 * k + 2)) * (fu (d + 11 * k)))), .long (1000 : Int64)]) (rest := []) ⟨hx, hb, hml, hown, hts⟩ (c_L_floor l dC dI cI cJ cZ cO ((((fw (20 * k)) * me) + ((fw (20 * k + 1)) * (fw (20 * k + 10)))) + ((fw (20 * k + 2)) * (fu (d + 11 * k)))) (1000 : Int64) _ (by decide)) (va_cwS 2 hts (gd_S wd_4_16 wd_4_17 wd_1_0 wd_4_18) rfl rfl rfl (by decide +kernel) ⟨Nat.le_of_ble_eq_true rfl, Nat.le_of_ble_eq_true rfl⟩) (lw_S0 gN_c (fun U _ hW => gN_w hW hG) hK) rfl rfl hl.1 rfl (lv_room (Nat.le_of_ble_eq_true rfl)) dL_next_56 hcs) hP hD hS hA (fun H locs hP hD hS => ?_)
  refine lv_aload_n hx hb dL_next_59 rfl (lv_at hl 2 rfl) ?_
  refine lv_iload hx hb dL_next_60 (lv_at hl 1 rfl) ?_
  refine lv_iconst (v := 4) hx hb dL_next_62 (by decide) ?_
  refine lv_iadd hx hb dL_next_63 ?_
  refine hh_seti (y := (nI (20 * k + 4))) (lwAdd (a := 20 * k) (b := 4) (by omega)) ?_
  refine lr_ll hx hb hK hP 0 1 (e0 := 20 * k + 4) rfl rfl (by omega) (by decide) dL_next_64 ?_
  refine lv_ladd hx hb dL_next_65 ?_
  refine lv_ldc2 (v := -1000000) hx hb hown (hts _ wd_4_28) dL_next_66 ?_
  refine lv_ldc2 (v := 1000000) hx hb hown (hts _ wd_4_29) dL_next_69 ?_
  refine lw_El (rv := (f_L_within_j1_1 ((f_L_floor_r ((((fw (20 * k)) * me) + ((fw (20 * k + 1)) * (fw (20 * k + 10)))) + ((fw (20 * k + 2)) * (fu (d + 11 * k)))) (1000 : Int64)) + (fw (20 * k + 4))) (-1000000 : Int64) (1000000 : Int64))) (rest := []) (va_runS (As := [.long ((f_L_floor_r ((((fw (20 * k)) * me) + ((fw (20 * k + 1)) * (fw (20 * k + 10)))) + ((fw (20 * k + 2)) * (fu (d + 11 * k)))) (1000 : Int64)) + (fw (20 * k + 4))), .long (-1000000 : Int64), .long (1000000 : Int64)]) (rest := []) ⟨hx, hb, hml, hown, hts⟩ (c_L_within l dC dI cI cJ cZ cO ((f_L_floor_r ((((fw (20 * k)) * me) + ((fw (20 * k + 1)) * (fw (20 * k + 10)))) + ((fw (20 * k + 2)) * (fu (d + 11 * k)))) (1000 : Int64)) + (fw (20 * k + 4))) (-1000000 : Int64) (1000000 : Int64) _) (va_cwS 3 hts (gd_S wd_3_183 wd_3_184 wd_1_0 wd_3_185) rfl rfl rfl (by decide +kernel) ⟨Nat.le_of_ble_eq_true rfl, Nat.le_of_ble_eq_true rfl⟩) (lw_S0 gN_c (fun U _ hW => gN_w hW hG) hK) rfl rfl hl.1 rfl (lv_room (Nat.le_of_ble_eq_true rfl)) dL_next_72 hcs) hP hD hS hA (fun H locs hP hD hS => ?_)
  exact hh_retl hQ (rfl) hx hb hr hlocks hP hK hD hS dL_next_75
