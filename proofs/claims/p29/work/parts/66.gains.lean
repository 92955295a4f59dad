set_option maxHeartbeats 4000000 in
set_option maxRecDepth 100000 in
theorem c_L_gains (l : Launch) (dC : Nat → ClassId) (dI : Nat → Nat → Nat) (cI cJ cZ cO : ClassId) (adB adA adW adU adG adN : Nat) (lf : Nat → Option Nat) (a : Nat → AT) (bs : Int32) (T : Nat → LT) (fw fu fg : Nat → Int64) (fn : Nat → Int32) (k : Nat) (np ni nd : Int32) (sz : Nat) (hlf : ∀ j : Nat, j < 3 → lf (nI j).toNatClampNeg = some (ya_adL (a j))) (hk : k < 3) (hR : RP k (T k) fw fu fg fn) (h15 : fw (20 * k + 15) = 0) (hb9 : Gb np ni nd) : Met l yL_gains (Cond.code yL_gains cL_gains 14 (some .boolean) :: wAll) ({ frames := 4, cells := 0, slots := 0, locals := 89 }) (va_Pc [.ref adB, .ref adW, .ref adN, .int (nI k), .int np, .int ni, .int nd] (gP (dC, dI) ([zAJ cJ adW 60 fw, zAJ cJ adU 33 fu, zAJ cJ adG 60 fg, zAI cI adN 6 fn] ++ wB cI cJ cO adB adA lf bs a T) (tyG cI cJ cZ cO) sz gN)) (va_Qi (fun r (u : (Nat → Int64) × (Nat → Int32) × (Nat → LT)) => r = 1 ∧ SPost k T fw fu fg fn u.1 fg u.2.1 u.2.2) (fun u t => gB (dC, dI) (va_A ([zAJ cJ adW 60 fw, zAJ cJ adU 33 fu, zAJ cJ adG 60 fg, zAI cI adN 6 fn] ++ wB cI cJ cO adB adA lf bs a T) sz) ([zAJ cJ adW 60 u.1, zAJ cJ adU 33 fu, zAJ cJ adG 60 fg, zAI cI adN 6 u.2.1] ++ wB cI cJ cO adB adA lf bs a u.2.2) (tyG cI cJ cZ cO) t) (va_A ([zAJ cJ adW 60 fw, zAJ cJ adU 33 fu, zAJ cJ adG 60 fg, zAI cI adN 6 fn] ++ wB cI cJ cO adB adA lf bs a T) sz)) 0 0 (va_A ([zAJ cJ adW 60 fw, zAJ cJ adU 33 fu, zAJ cJ adG 60 fg, zAI cI adN 6 fn] ++ wB cI cJ cO adB adA lf bs a T) sz) := by
  refine Met.ofW (cc := cL_gains) (maxL := 14) (ret := (some .boolean)) (by decide) rfl ?_
  intro p e s m args below meth c s₁ B hml hv
  obtain ⟨rfl, hsz, hP, hK, hD0, hG⟩ := hv
  have hx := B.exec
  have hb := B.bytes
  have hr := B.returns
  have hts := ht_of B.pre
  have hown : s.vm.findClass RL = some m.cls := findClass_of_methodNamed B.named
  have hlocks := B.notSynchronized
  subst hsz
  have hD := hD0.self (sz := s.heap.size)
  generalize hAe : va_A ([zAJ cJ adW 60 fw, zAJ cJ adU 33 fu, zAJ cJ adG 60 fg, zAI cI adN 6 fn] ++ wB cI cJ cO adB adA lf bs a T) s.heap.size = A at hD ⊢
  have hA : ∀ q : Nat, s.heap.size ≤ q → A q := fun q h => by rw [← hAe]; exact Or.inr h
  have hS : va_S A s.heap s.heap [] := va_S.rf
  have hl := lv_entry ([.ref adB, .ref adW, .ref adN, .int (nI k), .int np, .int ni, .int nd]) (n := 14) (Nat.le_of_ble_eq_true rfl)
  rw [lg_entry_eq]
  generalize (lg_sl ([.ref adB, .ref adW, .ref adN, .int (nI k), .int np, .int ni, .int nd]) ++ List.replicate (14 - (lg_sl ([.ref adB, .ref adW, .ref adN, .int (nI k), .int np, .int ni, .int nd])).length) Slot.unset).toArray = ls at hl ⊢
  have hl : lv_has ls 14 [(0, .ref adB), (1, .ref adW), (2, .ref adN), (3, .int (nI k)), (4, .int np), (5, .int ni), (6, .int nd)] := hl
  refine hh_name (fun Q hQ => ?_)
  have K := fx_mk hx hb hml hown hts hG hK hlf
  have hcs : (0 : Nat) ≤ 0 ∧ (0 : Nat) ≤ 0 := ⟨Nat.zero_le _, Nat.zero_le _⟩
  refine lv_aload_n hx hb dL_gains_0 rfl (lv_at hl 0 rfl) ?_
  refine lv_iload_n hx hb dL_gains_1 rfl (lv_at hl 3 rfl) ?_
  refine s_mode (k := k)  K hk  ⟨Nat.le_of_ble_eq_true rfl, Nat.le_of_ble_eq_true rfl⟩ hcs (Nat.le_of_ble_eq_true rfl) hP hD hS hA hl.1 dL_gains_2 (fun H locs hP hD hS => ?_)
  refine hh_seti (y := (yl_lmo (T k))) (rfl) ?_
  refine lv_iconst (v := 3) hx hb dL_gains_5 (by decide) ?_
  refine lv_icmp_ne (tgt := 11) hx hb dL_gains_6 (by decide) (fun h3 => ?_) (fun h3 => ?_)
  · skip
    refine lv_aload_n hx hb dL_gains_11 rfl (lv_at hl 0 rfl) ?_
    refine lv_iload_n hx hb dL_gains_12 rfl (lv_at hl 3 rfl) ?_
    refine s_setpoint (k := k)  K hk  ⟨Nat.le_of_ble_eq_true rfl, Nat.le_of_ble_eq_true rfl⟩ hcs (Nat.le_of_ble_eq_true rfl) hP hD hS hA hl.1 dL_gains_13 (fun H locs hP hD hS => ?_)
    refine hh_setl (y := (yl_ksp (T k))) (rfl) ?_
    refine lv_aload_n hx hb dL_gains_16 rfl (lv_at hl 0 rfl) ?_
    refine lv_iload_n hx hb dL_gains_17 rfl (lv_at hl 3 rfl) ?_
    refine s_measure (k := k)  K hk  ⟨Nat.le_of_ble_eq_true rfl, Nat.le_of_ble_eq_true rfl⟩ hcs (Nat.le_of_ble_eq_true rfl) hP hD hS hA hl.1 dL_gains_18 (fun H locs hP hD hS => ?_)
    refine hh_setl (y := (yl_pme (T k))) (rfl) ?_
    refine lv_lsub hx hb dL_gains_21 ?_
    refine lv_lstore (lv' := [(7, .long ((yl_ksp (T k)) - (yl_pme (T k)))), (0, .ref adB), (1, .ref adW), (2, .ref adN), (3, .int (nI k)), (4, .int np), (5, .int ni), (6, .int nd)]) hx hb dL_gains_22 hl (by decide) rfl (fun ls hl => ?_)
    refine lv_aload_n hx hb dL_gains_24 rfl (lv_at hl 2 rfl) ?_
    refine lv_bipush (v := 20) hx hb dL_gains_25 (by decide) ?_
    refine lv_iload_n hx hb dL_gains_27 rfl (lv_at hl 4 rfl) ?_
    refine lv_imul hx hb dL_gains_28 ?_
    refine hh_seti (y := (nI (20 * k))) (lwMul (a := 20) (b := k) (by omega)) ?_
    refine lv_bipush (v := 10) hx hb dL_gains_29 (by decide) ?_
    refine lv_iadd hx hb dL_gains_31 ?_
    refine hh_seti (y := (nI (20 * k + 10))) (lwAdd (a := 20 * k) (b := 10) (by omega)) ?_
    refine lr_ll hx hb hK hP 0 1 (e0 := 20 * k + 10) rfl rfl (by omega) (by decide) dL_gains_32 ?_
    refine lv_aload_n hx hb dL_gains_33 rfl (lv_at hl 1 rfl) ?_
    refine lv_iload_n hx hb dL_gains_34 rfl (lv_at hl 4 rfl) ?_
    refine s_measure (k := k)  K hk  ⟨Nat.le_of_ble_eq_true rfl, Nat.le_of_ble_eq_true rfl⟩ hcs (Nat.le_of_ble_eq_true rfl) hP hD hS hA hl.1 dL_gains_35 (fun H locs hP hD hS => ?_)
    refine hh_setl (y := (yl_pme (T k))) (rfl) ?_
    refine lv_lsub hx hb dL_gains_38 ?_
    refine lv_lstore (lv' := [(9, .long ((fw (20 * k + 10)) - (yl_pme (T k)))), (7, .long ((yl_ksp (T k)) - (yl_pme (T k)))), (0, .ref adB), (1, .ref adW), (2, .ref adN), (3, .int (nI k)), (4, .int np), (5, .int ni), (6, .int nd)]) hx hb dL_gains_39 hl (by decide) rfl (fun ls hl => ?_)
    refine lv_aload_n hx hb dL_gains_41 rfl (lv_at hl 2 rfl) ?_
    refine lv_iload_n hx hb dL_gains_42 rfl (lv_at hl 5 rfl) ?_
    refine s_integral (k := k)  K hk  ⟨Nat.le_of_ble_eq_true rfl, Nat.le_of_ble_eq_true rfl⟩ hcs (Nat.le_of_ble_eq_true rfl) hP hD hS hA hl.1 dL_gains_43 (fun H locs hP hD hS => ?_)
    refine hh_setl (y := (yl_kig (T k))) (rfl) ?_
    refine lv_aload_n hx hb dL_gains_46 rfl (lv_at hl 2 rfl) ?_
    refine lv_iload_n hx hb dL_gains_47 rfl (lv_at hl 5 rfl) ?_
    refine lv_iconst (v := 0) hx hb dL_gains_48 (by decide) ?_
    refine s_gain (k := k) (wh := (0 : Int32)) K hk (by decide) (by decide) ⟨Nat.le_of_ble_eq_true rfl, Nat.le_of_ble_eq_true rfl⟩ hcs (Nat.le_of_ble_eq_true rfl) hP hD hS hA hl.1 dL_gains_49 (fun H locs hP hD hS => ?_)
    refine hh_seti (y := (yl_kp (T k))) (rfl) ?_
    refine lv_i2l hx hb dL_gains_52 rfl ?_
    refine lv_lload hx hb dL_gains_53 (lv_at hl 1 rfl) ?_
    refine lv_lmul hx hb dL_gains_55 ?_
    refine lv_ladd hx hb dL_gains_56 ?_
    refine lv_aload_n hx hb dL_gains_57 rfl (lv_at hl 2 rfl) ?_
    refine lv_iload_n hx hb dL_gains_58 rfl (lv_at hl 5 rfl) ?_
    refine lv_iconst (v := 2) hx hb dL_gains_59 (by decide) ?_
    refine s_gain (k := k) (wh := (2 : Int32)) K hk (by decide) (by decide) ⟨Nat.le_of_ble_eq_true rfl, Nat.le_of_ble_eq_true rfl⟩ hcs (Nat.le_of_ble_eq_true rfl) hP hD hS hA hl.1 dL_gains_60 (fun H locs hP hD hS => ?_)
    refine hh_seti (y := (yl_kd (T k))) (rfl) ?_
    refine lv_i2l hx hb dL_gains_63 rfl ?_
    refine lv_lload hx hb dL_gains_64 (lv_at hl 0 rfl) ?_
    refine lv_lmul hx hb dL_gains_66 ?_
    refine lv_ladd hx hb dL_gains_67 ?_
    refine lv_lstore (lv' := [(11, .long (((yl_kig (T k)) + (((yl_kp (T k)).toInt64) * ((yl_ksp (T k)) - (yl_pme (T k))))) + (((yl_kd (T k)).toInt64) * ((fw (20 * k + 10)) - (yl_pme (T k)))))), (9, .long ((fw (20 * k + 10)) - (yl_pme (T k)))), (7, .long ((yl_ksp (T k)) - (yl_pme (T k)))), (0, .ref adB), (1, .ref adW), (2, .ref adN), (3, .int (nI k)), (4, .int np), (5, .int ni), (6, .int nd)]) hx hb dL_gains_68 hl (by decide) rfl (fun ls hl => ?_)
    refine lv_aload_n hx hb dL_gains_70 rfl (lv_at hl 5 rfl) ?_
    refine lv_iload_n hx hb dL_gains_71 rfl (lv_at hl 6 rfl) ?_
    refine lr_il hx hb hK hP 3 0 (e0 := k) rfl rfl (by omega) (by decide) dL_gains_72 ?_
    refine lv_istore (lv' := [(13, .int (fn (k))), (11, .long (((yl_kig (T k)) + (((yl_kp (T k)).toInt64) * ((yl_ksp (T k)) - (yl_pme (T k))))) + (((yl_kd (T k)).toInt64) * ((fw (20 * k + 10)) - (yl_pme (T k)))))), (9, .long ((fw (20 * k + 10)) - (yl_pme (T k)))), (7, .long ((yl_ksp (T k)) - (yl_pme (T k)))), (0, .ref adB), (1, .ref adW), (2, .ref adN), (3, .int (nI k)), (4, .int np), (5, .int ni), (6, .int nd)]) hx hb dL_gains_73 hl (by decide) rfl (fun ls hl => ?_)
    refine lv_aload_n hx hb dL_gains_75 rfl (lv_at hl 6 rfl) ?_
    refine lv_iload_n hx hb dL_gains_76 rfl (lv_at hl 7 rfl) ?_
    refine lv_iconst (v := 0) hx hb dL_gains_77 (by decide) ?_
    refine lr_is hx hb hK hP hD hS 3 0 (e0 := k) rfl rfl (by omega) (by decide) dL_gains_78 (w1 := ([zAJ cJ adW 60 fw, zAJ cJ adU 33 fu, zAJ cJ adG 60 fg, zAI cI adN 6 (upd fn (k) (0 : Int32))] ++ wB cI cJ cO adB adA lf bs a T)) rfl (fun H locs hP hD hS => ?_)
    refine lv_aload_n hx hb dL_gains_79 rfl (lv_at hl 5 rfl) ?_
    refine lv_bipush (v := 20) hx hb dL_gains_80 (by decide) ?_
    refine lv_iload_n hx hb dL_gains_82 rfl (lv_at hl 7 rfl) ?_
    refine lv_imul hx hb dL_gains_83 ?_
    refine hh_seti (y := (nI (20 * k))) (lwMul (a := 20) (b := k) (by omega)) ?_
    refine lv_bipush (v := 14) hx hb dL_gains_84 (by decide) ?_
    refine lv_iadd hx hb dL_gains_86 ?_
    refine hh_seti (y := (nI (20 * k + 14))) (lwAdd (a := 20 * k) (b := 14) (by omega)) ?_
    refine lv_lconst (v := 0) hx hb dL_gains_87 (by decide) ?_
    refine lr_ls hx hb hK hP hD hS 0 1 (e0 := 20 * k + 14) rfl rfl (by omega) (by decide) dL_gains_88 (w1 := ([zAJ cJ adW 60 (vp_updL fw (20 * k + 14) (0 : Int64)), zAJ cJ adU 33 fu, zAJ cJ adG 60 fg, zAI cI adN 6 (upd fn (k) (0 : Int32))] ++ wB cI cJ cO adB adA lf bs a T)) rfl (fun H locs hP hD hS => ?_)
    refine lv_aload_n hx hb dL_gains_89 rfl (lv_at hl 4 rfl) ?_
    refine lv_iload_n hx hb dL_gains_90 rfl (lv_at hl 7 rfl) ?_
    refine lv_iload hx hb dL_gains_91 (lv_at hl 8 rfl) ?_
    refine lv_iload hx hb dL_gains_93 (lv_at hl 9 rfl) ?_
    refine lv_iload hx hb dL_gains_95 (lv_at hl 10 rfl) ?_
    refine s_setGains (k := k) (np := np) (ni := ni) (nd := nd) K hk ((Gb_q hb9).1) ((Gb_q hb9).2.1) ((Gb_q hb9).2.2.1) ((Gb_q hb9).2.2.2.1) ((Gb_q hb9).2.2.2.2.1) ((Gb_q hb9).2.2.2.2.2) (sg_q10 h3) ⟨Nat.le_of_ble_eq_true rfl, Nat.le_of_ble_eq_true rfl⟩ hcs (Nat.le_of_ble_eq_true rfl) hP hD hS hA hl.1 dL_gains_97 (fun H locs hP hD hS => ?_)
    refine hh_seti (y := (yl_sn (T k))) (rfl) ?_
    refine lv_iload hx hb dL_gains_100 (lv_at hl 0 rfl) ?_
    refine lv_icmp_ne (tgt := 145) hx hb dL_gains_102 (by decide) (fun h9 => absurd (sg_sn hR) h9) (fun _ => ?_)
    refine lv_aload_n hx hb dL_gains_105 rfl (lv_at hl 4 rfl) ?_
    refine lv_iload_n hx hb dL_gains_106 rfl (lv_at hl 7 rfl) ?_
    refine lv_iconst (v := 1) hx hb dL_gains_107 (by decide) ?_
    refine s_gain (k := k) (wh := (1 : Int32)) K hk (by decide) (by decide) ⟨Nat.le_of_ble_eq_true rfl, Nat.le_of_ble_eq_true rfl⟩ hcs (Nat.le_of_ble_eq_true rfl) hP hD hS hA hl.1 dL_gains_108 (fun H locs hP hD hS => ?_)
    refine hh_seti (y := (lr_gain (lu_setGains (T k) np ni nd) (1 : Int32))) (by rw [upT_e] <;> rfl) ?_
    refine hh_seti (y := (yl_ki (lu_setGains (T k) np ni nd))) (rfl) ?_
    refine lv_iload hx hb dL_gains_111 (lv_at hl 9 rfl) ?_
    refine lv_icmp_ne (tgt := 145) hx hb dL_gains_113 (by decide) (fun h9 => absurd (rfl) h9) (fun _ => ?_)
    refine lv_aload_n hx hb dL_gains_116 rfl (lv_at hl 4 rfl) ?_
    refine lv_iload_n hx hb dL_gains_117 rfl (lv_at hl 7 rfl) ?_
    refine s_integral (k := k)  K hk  ⟨Nat.le_of_ble_eq_true rfl, Nat.le_of_ble_eq_true rfl⟩ hcs (Nat.le_of_ble_eq_true rfl) hP hD hS hA hl.1 dL_gains_118 (fun H locs hP hD hS => ?_)
    refine hh_setl (y := (yl_kig (lu_setGains (T k) np ni nd))) (by rw [upT_e] <;> rfl) ?_
    refine lv_iload hx hb dL_gains_121 (lv_at hl 8 rfl) ?_
    refine lv_i2l hx hb dL_gains_123 rfl ?_
    refine lv_lload hx hb dL_gains_124 (lv_at hl 3 rfl) ?_
    refine lv_lmul hx hb dL_gains_126 ?_
    refine lv_ladd hx hb dL_gains_127 ?_
    refine lv_iload hx hb dL_gains_128 (lv_at hl 10 rfl) ?_
    refine lv_i2l hx hb dL_gains_130 rfl ?_
    refine lv_lload hx hb dL_gains_131 (lv_at hl 2 rfl) ?_
    refine lv_lmul hx hb dL_gains_133 ?_
    refine lv_ladd hx hb dL_gains_134 ?_
    refine lv_lload hx hb dL_gains_135 (lv_at hl 1 rfl) ?_
    refine hh_cne (tgt := 145) hx hb dL_gains_137 dL_gains_138 (by decide) (fun h9 => absurd (gs_sum hR hb9) h9) (fun _ => ?_)
    refine lv_iconst (v := 1) hx hb dL_gains_141 (by decide) ?_
    refine lv_goto (tgt := 146) hx hb dL_gains_142 (by decide) ?_
    exact hh_retS (w := fun (u : (Nat → Int64) × (Nat → Int32) × (Nat → LT)) => ([zAJ cJ adW 60 u.1, zAJ cJ adU 33 fu, zAJ cJ adG 60 fg, zAI cI adN 6 u.2.1] ++ wB cI cJ cO adB adA lf bs a u.2.2)) (((vp_updL fw (20 * k + 14) (0 : Int64)), (upd fn (k) (0 : Int32)), (upT T k (lu_setGains (T k) np ni nd)))) hQ (⟨rfl, SP_mk (gs_RP hR h3 h15 hb9) (by intro i hi; (try dsimp only); repeat rw [ul_ne _ _ (by omega)]) (fun _ _ => rfl) (by intro j hj hj3; (try dsimp only); rw [u_ne _ _ hj])⟩) (rfl) hx hb hr hlocks hP hK hD hS dL_gains_146
  · skip
    refine lv_iconst (v := 1) hx hb dL_gains_9 (by decide) ?_
    exact hh_retS (w := fun (u : (Nat → Int64) × (Nat → Int32) × (Nat → LT)) => ([zAJ cJ adW 60 u.1, zAJ cJ adU 33 fu, zAJ cJ adG 60 fg, zAI cI adN 6 u.2.1] ++ wB cI cJ cO adB adA lf bs a u.2.2)) ((fw, fn, T)) hQ (⟨rfl, SP_id hR⟩) (rfl) hx hb hr hlocks hP hK hD hS dL_gains_10
