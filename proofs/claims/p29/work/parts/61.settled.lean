set_option maxHeartbeats 4000000 in
set_option maxRecDepth 100000 in
theorem c_L_isSettled (l : Launch) (dC : Nat → ClassId) (dI : Nat → Nat → Nat) (cI cJ cZ cO : ClassId) (adB adA adW adU adG adN : Nat) (lf : Nat → Option Nat) (a : Nat → AT) (bs : Int32) (T : Nat → LT) (fw fu fg : Nat → Int64) (fn : Nat → Int32) (k : Nat) (sz : Nat) (hlf : ∀ j : Nat, j < 3 → lf (nI j).toNatClampNeg = some (ya_adL (a j))) (hk : k < 3) (hs : yl_kig (T k) = (((1000 : Int64) * (yl_lou (T k))) - ((yl_kp (T k)).toInt64 * ((yl_ksp (T k)) - (yl_pme (T k))))) - ((yl_kd (T k)).toInt64 * ((fw (20 * k + 10)) - (yl_pme (T k))))) : Met l yL_isSettled (Cond.code yL_isSettled cL_isSettled 7 (some .boolean) :: wAll) ({ frames := 2, cells := 0, slots := 0, locals := 44 }) (va_Pc [.ref adB, .ref adW, .int (nI k)] (gP (dC, dI) ([zAJ cJ adW 60 fw, zAJ cJ adU 33 fu, zAJ cJ adG 60 fg, zAI cI adN 6 fn] ++ wB cI cJ cO adB adA lf bs a T) (tyG cI cJ cZ cO) sz gN)) (va_Qi (fun r (u : Unit) => r = 1) (fun u t => gB (dC, dI) (va_A ([zAJ cJ adW 60 fw, zAJ cJ adU 33 fu, zAJ cJ adG 60 fg, zAI cI adN 6 fn] ++ wB cI cJ cO adB adA lf bs a T) sz) ([zAJ cJ adW 60 fw, zAJ cJ adU 33 fu, zAJ cJ adG 60 fg, zAI cI adN 6 fn] ++ wB cI cJ cO adB adA lf bs a T) (tyG cI cJ cZ cO) t) (va_A ([zAJ cJ adW 60 fw, zAJ cJ adU 33 fu, zAJ cJ adG 60 fg, zAI cI adN 6 fn] ++ wB cI cJ cO adB adA lf bs a T) sz)) 0 0 (va_A ([zAJ cJ adW 60 fw, zAJ cJ adU 33 fu, zAJ cJ adG 60 fg, zAI cI adN 6 fn] ++ wB cI cJ cO adB adA lf bs a T) sz) := by
  refine Met.ofW (cc := cL_isSettled) (maxL := 7) (ret := (some .boolean)) (by decide) rfl ?_
  intro p e s m args below meth c s₁ B hml hv
  obtain ⟨rfl, hsz, hP, hK, hD0, hG⟩ := hv
  have hx := B.exec
  have hb := B.bytes
  have hr := B.returns
  have hts := ht_of B.pre
  have hown : s.vm.findClass RL = some m.cls := findClass_of_methodNamed B.named
  have hlocks := B.notSynchronized
  subst hsz
  have hD := hD0.self (sz := s.heap.size)
  generalize hAe : va_A ([zAJ cJ adW 60 fw, zAJ cJ adU 33 fu, zAJ cJ adG 60 fg, zAI cI adN 6 fn] ++ wB cI cJ cO adB adA lf bs a T) s.heap.size = A at hD ⊢
  have hA : ∀ q : Nat, s.heap.size ≤ q → A q := fun q h => by rw [← hAe]; exact Or.inr h
  have hS : va_S A s.heap s.heap [] := va_S.rf
  have hl := lv_entry ([.ref adB, .ref adW, .int (nI k)]) (n := 7) (Nat.le_of_ble_eq_true rfl)
  rw [lg_entry_eq]
  generalize (lg_sl ([.ref adB, .ref adW, .int (nI k)]) ++ List.replicate (7 - (lg_sl ([.ref adB, .ref adW, .int (nI k)])).length) Slot.unset).toArray = ls at hl ⊢
  have hl : lv_has ls 7 [(0, .ref adB), (1, .ref adW), (2, .int (nI k))] := hl
  refine hh_name (fun Q hQ => ?_)
  have K := fx_mk hx hb hml hown hts hG hK hlf
  have hcs : (0 : Nat) ≤ 0 ∧ (0 : Nat) ≤ 0 := ⟨Nat.zero_le _, Nat.zero_le _⟩
  refine lv_aload_n hx hb dL_isSettled_0 rfl (lv_at hl 0 rfl) ?_
  refine lv_iload_n hx hb dL_isSettled_1 rfl (lv_at hl 2 rfl) ?_
  refine s_setpoint (k := k)  K hk  ⟨Nat.le_of_ble_eq_true rfl, Nat.le_of_ble_eq_true rfl⟩ hcs (Nat.le_of_ble_eq_true rfl) hP hD hS hA hl.1 dL_isSettled_2 (fun H locs hP hD hS => ?_)
  refine hh_setl (y := (yl_ksp (T k))) (rfl) ?_
  refine lv_aload_n hx hb dL_isSettled_5 rfl (lv_at hl 0 rfl) ?_
  refine lv_iload_n hx hb dL_isSettled_6 rfl (lv_at hl 2 rfl) ?_
  refine s_measure (k := k)  K hk  ⟨Nat.le_of_ble_eq_true rfl, Nat.le_of_ble_eq_true rfl⟩ hcs (Nat.le_of_ble_eq_true rfl) hP hD hS hA hl.1 dL_isSettled_7 (fun H locs hP hD hS => ?_)
  refine hh_setl (y := (yl_pme (T k))) (rfl) ?_
  refine lv_lsub hx hb dL_isSettled_10 ?_
  refine lv_lstore_n (lv' := [(3, .long ((yl_ksp (T k)) - (yl_pme (T k)))), (0, .ref adB), (1, .ref adW), (2, .int (nI k))]) hx hb dL_isSettled_11 rfl hl (by decide) rfl (fun ls hl => ?_)
  refine lv_aload_n hx hb dL_isSettled_12 rfl (lv_at hl 2 rfl) ?_
  refine lv_bipush (v := 20) hx hb dL_isSettled_13 (by decide) ?_
  refine lv_iload_n hx hb dL_isSettled_15 rfl (lv_at hl 3 rfl) ?_
  refine lv_imul hx hb dL_isSettled_16 ?_
  refine hh_seti (y := (nI (20 * k))) (lwMul (a := 20) (b := k) (by omega)) ?_
  refine lv_bipush (v := 10) hx hb dL_isSettled_17 (by decide) ?_
  refine lv_iadd hx hb dL_isSettled_19 ?_
  refine hh_seti (y := (nI (20 * k + 10))) (lwAdd (a := 20 * k) (b := 10) (by omega)) ?_
  refine lr_ll hx hb hK hP 0 1 (e0 := 20 * k + 10) rfl rfl (by omega) (by decide) dL_isSettled_20 ?_
  refine lv_aload_n hx hb dL_isSettled_21 rfl (lv_at hl 1 rfl) ?_
  refine lv_iload_n hx hb dL_isSettled_22 rfl (lv_at hl 3 rfl) ?_
  refine s_measure (k := k)  K hk  ⟨Nat.le_of_ble_eq_true rfl, Nat.le_of_ble_eq_true rfl⟩ hcs (Nat.le_of_ble_eq_true rfl) hP hD hS hA hl.1 dL_isSettled_23 (fun H locs hP hD hS => ?_)
  refine hh_setl (y := (yl_pme (T k))) (rfl) ?_
  refine lv_lsub hx hb dL_isSettled_26 ?_
  refine lv_lstore (lv' := [(5, .long ((fw (20 * k + 10)) - (yl_pme (T k)))), (3, .long ((yl_ksp (T k)) - (yl_pme (T k)))), (0, .ref adB), (1, .ref adW), (2, .int (nI k))]) hx hb dL_isSettled_27 hl (by decide) rfl (fun ls hl => ?_)
  refine lv_aload_n hx hb dL_isSettled_29 rfl (lv_at hl 2 rfl) ?_
  refine lv_iload_n hx hb dL_isSettled_30 rfl (lv_at hl 4 rfl) ?_
  refine s_integral (k := k)  K hk  ⟨Nat.le_of_ble_eq_true rfl, Nat.le_of_ble_eq_true rfl⟩ hcs (Nat.le_of_ble_eq_true rfl) hP hD hS hA hl.1 dL_isSettled_31 (fun H locs hP hD hS => ?_)
  refine hh_setl (y := (yl_kig (T k))) (rfl) ?_
  refine lv_ldc2 (v := 1000) hx hb hown (hts _ wd_3_41) dL_isSettled_34 ?_
  refine lv_aload_n hx hb dL_isSettled_37 rfl (lv_at hl 2 rfl) ?_
  refine lv_iload_n hx hb dL_isSettled_38 rfl (lv_at hl 4 rfl) ?_
  refine s_output (k := k)  K hk  ⟨Nat.le_of_ble_eq_true rfl, Nat.le_of_ble_eq_true rfl⟩ hcs (Nat.le_of_ble_eq_true rfl) hP hD hS hA hl.1 dL_isSettled_39 (fun H locs hP hD hS => ?_)
  refine hh_setl (y := (yl_lou (T k))) (rfl) ?_
  refine lv_lmul hx hb dL_isSettled_42 ?_
  refine lv_aload_n hx hb dL_isSettled_43 rfl (lv_at hl 2 rfl) ?_
  refine lv_iload_n hx hb dL_isSettled_44 rfl (lv_at hl 4 rfl) ?_
  refine lv_iconst (v := 0) hx hb dL_isSettled_45 (by decide) ?_
  refine s_gain (k := k) (wh := (0 : Int32)) K hk (by decide) (by decide) ⟨Nat.le_of_ble_eq_true rfl, Nat.le_of_ble_eq_true rfl⟩ hcs (Nat.le_of_ble_eq_true rfl) hP hD hS hA hl.1 dL_isSettled_46 (fun H locs hP hD hS => ?_)
  refine hh_seti (y := (yl_kp (T k))) (rfl) ?_
  refine lv_i2l hx hb dL_isSettled_49 rfl ?_
  refine lv_lload_n hx hb dL_isSettled_50 rfl (lv_at hl 1 rfl) ?_
  refine lv_lmul hx hb dL_isSettled_51 ?_
  refine lv_lsub hx hb dL_isSettled_52 ?_
  refine lv_aload_n hx hb dL_isSettled_53 rfl (lv_at hl 2 rfl) ?_
  refine lv_iload_n hx hb dL_isSettled_54 rfl (lv_at hl 4 rfl) ?_
  refine lv_iconst (v := 2) hx hb dL_isSettled_55 (by decide) ?_
  refine s_gain (k := k) (wh := (2 : Int32)) K hk (by decide) (by decide) ⟨Nat.le_of_ble_eq_true rfl, Nat.le_of_ble_eq_true rfl⟩ hcs (Nat.le_of_ble_eq_true rfl) hP hD hS hA hl.1 dL_isSettled_56 (fun H locs hP hD hS => ?_)
  refine hh_seti (y := (yl_kd (T k))) (rfl) ?_
  refine lv_i2l hx hb dL_isSettled_59 rfl ?_
  refine lv_lload hx hb dL_isSettled_60 (lv_at hl 0 rfl) ?_
  refine lv_lmul hx hb dL_isSettled_62 ?_
  refine lv_lsub hx hb dL_isSettled_63 ?_
  refine hh_cne (tgt := 72) hx hb dL_isSettled_64 dL_isSettled_65 (by decide) (fun h9 => absurd (hs) h9) (fun _ => ?_)
  refine lv_iconst (v := 1) hx hb dL_isSettled_68 (by decide) ?_
  refine lv_goto (tgt := 73) hx hb dL_isSettled_69 (by decide) ?_
  exact hh_retS (w := fun (u : Unit) => ([zAJ cJ adW 60 fw, zAJ cJ adU 33 fu, zAJ cJ adG 60 fg, zAI cI adN 6 fn] ++ wB cI cJ cO adB adA lf bs a T)) (()) hQ (rfl) (rfl) hx hb hr hlocks hP hK hD hS dL_isSettled_73
