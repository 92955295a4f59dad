set_option maxHeartbeats 4000000 in
set_option maxRecDepth 100000 in
theorem c_L_isRelay (l : Launch) (dC : Nat → ClassId) (dI : Nat → Nat → Nat) (cI cJ cZ cO : ClassId) (adB adA adW adU adG adN : Nat) (lf : Nat → Option Nat) (a : Nat → AT) (bs : Int32) (T : Nat → LT) (fw fu fg : Nat → Int64) (fn : Nat → Int32) (k : Nat) (ou y sp : Int64) (sz : Nat) (hlf : ∀ j : Nat, j < 3 → lf (nI j).toNatClampNeg = some (ya_adL (a j))) (hk : k < 3) (a1 : ¬ ou = (f_L_within_j1_1 ((fw (20 * k + 13)) + (fw (20 * k + 11))) (fw (20 * k + 5)) (fw (20 * k + 6))) → ou = (f_L_within_j1_1 ((fw (20 * k + 13)) - (fw (20 * k + 11))) (fw (20 * k + 5)) (fw (20 * k + 6)))) (a2 : ¬ (sp - y) ≤ fw (20 * k + 12) → ou = (f_L_within_j1_1 ((fw (20 * k + 13)) + (fw (20 * k + 11))) (fw (20 * k + 5)) (fw (20 * k + 6)))) (a3 : ¬ (-(fw (20 * k + 12))) ≤ (sp - y) → ou = (f_L_within_j1_1 ((fw (20 * k + 13)) - (fw (20 * k + 11))) (fw (20 * k + 5)) (fw (20 * k + 6)))) (b1 : yl_lmo (T k) = (3 : Int32) → yl_rpr (T k) = (1 : Int32)) (b2 : yl_lmo (T k) = (3 : Int32) → ¬ (400 : Int32) ≤ ((fn (k + 3)) + (1 : Int32))) (c1 : ¬ yl_lmo (T k) = (3 : Int32) → yl_lmo (T k) = (1 : Int32)) (c2 : ¬ yl_lmo (T k) = (3 : Int32) → ¬ yl_rpr (T k) = (2 : Int32) → yl_rpr (T k) = (3 : Int32)) (c3 : ¬ yl_lmo (T k) = (3 : Int32) → ¬ yl_rpr (T k) = (2 : Int32) → ((fn (k + 3)) + (1 : Int32)) = (400 : Int32)) (c4 : ¬ yl_lmo (T k) = (3 : Int32) → yl_kig (T k) = ((((1000 : Int64) * (fw (20 * k + 13))) - ((yl_kp (T k)).toInt64 * (sp - y))) - ((yl_kd (T k)).toInt64 * ((fw (20 * k + 10)) - y)))) (c5 : ¬ yl_lmo (T k) = (3 : Int32) → yl_rpr (T k) = (2 : Int32) → Told (T k) (fw (20 * k + 11)).toInt32) : Met l yL_isRelay (Cond.code yL_isRelay cL_isRelay 21 (some .boolean) :: wAll) ({ frames := 5, cells := 0, slots := 0, locals := 124 }) (va_Pc [.ref adB, .ref adW, .int (nI k), .long ou, .long y, .long sp, .ref adN] (gP (dC, dI) ([zAJ cJ adW 60 fw, zAJ cJ adU 33 fu, zAJ cJ adG 60 fg, zAI cI adN 6 fn] ++ wB cI cJ cO adB adA lf bs a T) (tyG cI cJ cZ cO) sz gN)) (va_Qi (fun r (u : Unit) => r = 1) (fun u t => gB (dC, dI) (va_A ([zAJ cJ adW 60 fw, zAJ cJ adU 33 fu, zAJ cJ adG 60 fg, zAI cI adN 6 fn] ++ wB cI cJ cO adB adA lf bs a T) sz) ([zAJ cJ adW 60 fw, zAJ cJ adU 33 fu, zAJ cJ adG 60 fg, zAI cI adN 6 (upd fn (k + 3) ((fn (k + 3)) + (1 : Int32)))] ++ wB cI cJ cO adB adA lf bs a T) (tyG cI cJ cZ cO) t) (va_A ([zAJ cJ adW 60 fw, zAJ cJ adU 33 fu, zAJ cJ adG 60 fg, zAI cI adN 6 fn] ++ wB cI cJ cO adB adA lf bs a T) sz)) 0 0 (va_A ([zAJ cJ adW 60 fw, zAJ cJ adU 33 fu, zAJ cJ adG 60 fg, zAI cI adN 6 fn] ++ wB cI cJ cO adB adA lf bs a T) sz) := by
  refine Met.ofW (cc := cL_isRelay) (maxL := 21) (ret := (some .boolean)) (by decide) rfl ?_
  intro p e s m args below meth c s₁ B hml hv
  obtain ⟨rfl, hsz, hP, hK, hD0, hG⟩ := hv
  have hx := B.exec
  have hb := B.bytes
  have hr := B.returns
  have hts := ht_of B.pre
  have hown : s.vm.findClass RL = some m.cls := findClass_of_methodNamed B.named
  have hlocks := B.notSynchronized
  subst hsz
  have hD := hD0.self (sz := s.heap.size)
  generalize hAe : va_A ([zAJ cJ adW 60 fw, zAJ cJ adU 33 fu, zAJ cJ adG 60 fg, zAI cI adN 6 fn] ++ wB cI cJ cO adB adA lf bs a T) s.heap.size = A at hD ⊢
  have hA : ∀ q : Nat, s.heap.size ≤ q → A q := fun q h => by rw [← hAe]; exact Or.inr h
  have hS : va_S A s.heap s.heap [] := va_S.rf
  have hl := lv_entry ([.ref adB, .ref adW, .int (nI k), .long ou, .long y, .long sp, .ref adN]) (n := 21) (Nat.le_of_ble_eq_true rfl)
  rw [lg_entry_eq]
  generalize (lg_sl ([.ref adB, .ref adW, .int (nI k), .long ou, .long y, .long sp, .ref adN]) ++ List.replicate (21 - (lg_sl ([.ref adB, .ref adW, .int (nI k), .long ou, .long y, .long sp, .ref adN])).length) Slot.unset).toArray = ls at hl ⊢
  have hl : lv_has ls 21 [(0, .ref adB), (1, .ref adW), (2, .int (nI k)), (3, .long ou), (5, .long y), (7, .long sp), (9, .ref adN)] := hl
  refine hh_name (fun Q hQ => ?_)
  have K := fx_mk hx hb hml hown hts hG hK hlf
  have hcs : (0 : Nat) ≤ 0 ∧ (0 : Nat) ≤ 0 := ⟨Nat.zero_le _, Nat.zero_le _⟩
  refine lv_bipush (v := 20) hx hb dL_isRelay_0 (by decide) ?_
  refine lv_iload_n hx hb dL_isRelay_2 rfl (lv_at hl 2 rfl) ?_
  refine lv_imul hx hb dL_isRelay_3 ?_
  refine hh_seti (y := (nI (20 * k))) (lwMul (a := 20) (b := k) (by omega)) ?_
  refine lv_istore (lv' := [(10, .int (nI (20 * k))), (0, .ref adB), (1, .ref adW), (2, .int (nI k)), (3, .long ou), (5, .long y), (7, .long sp), (9, .ref adN)]) hx hb dL_isRelay_4 hl (by decide) rfl (fun ls hl => ?_)
  refine lv_lload hx hb dL_isRelay_6 (lv_at hl 6 rfl) ?_
  refine lv_lload hx hb dL_isRelay_8 (lv_at hl 5 rfl) ?_
  refine lv_lsub hx hb dL_isRelay_10 ?_
  refine lv_lstore (lv' := [(11, .long (sp - y)), (10, .int (nI (20 * k))), (0, .ref adB), (1, .ref adW), (2, .int (nI k)), (3, .long ou), (5, .long y), (7, .long sp), (9, .ref adN)]) hx hb dL_isRelay_11 hl (by decide) rfl (fun ls hl => ?_)
  refine lv_aload_n hx hb dL_isRelay_13 rfl (lv_at hl 3 rfl) ?_
  refine lv_iload hx hb dL_isRelay_14 (lv_at hl 1 rfl) ?_
  refine lv_bipush (v := 13) hx hb dL_isRelay_16 (by decide) ?_
  refine lv_iadd hx hb dL_isRelay_18 ?_
  refine hh_seti (y := (nI (20 * k + 13))) (lwAdd (a := 20 * k) (b := 13) (by omega)) ?_
  refine lr_ll hx hb hK hP 0 1 (e0 := 20 * k + 13) rfl rfl (by omega) (by decide) dL_isRelay_19 ?_
  refine lv_aload_n hx hb dL_isRelay_20 rfl (lv_at hl 3 rfl) ?_
  refine lv_iload hx hb dL_isRelay_21 (lv_at hl 1 rfl) ?_
  refine lv_bipush (v := 11) hx hb dL_isRelay_23 (by decide) ?_
  refine lv_iadd hx hb dL_isRelay_25 ?_
  refine hh_seti (y := (nI (20 * k + 11))) (lwAdd (a := 20 * k) (b := 11) (by omega)) ?_
  refine lr_ll hx hb hK hP 0 1 (e0 := 20 * k + 11) rfl rfl (by omega) (by decide) dL_isRelay_26 ?_
  refine lv_ladd hx hb dL_isRelay_27 ?_
  refine lv_aload_n hx hb dL_isRelay_28 rfl (lv_at hl 3 rfl) ?_
  refine lv_iload hx hb dL_isRelay_29 (lv_at hl 1 rfl) ?_
  refine lv_iconst (v := 5) hx hb dL_isRelay_31 (by decide) ?_
  refine lv_iadd hx hb dL_isRelay_32 ?_
  refine hh_seti (y := (nI (20 * k + 5))) (lwAdd (a := 20 * k) (b := 5) (by omega)) ?_
  refine lr_ll hx hb hK hP 0 1 (e0 := 20 * k + 5) rfl rfl (by omega) (by decide) dL_isRelay_33 ?_
  refine lv_aload_n hx hb dL_isRelay_34 rfl (lv_at hl 3 rfl) ?_
  refine lv_iload hx hb dL_isRelay_35 (lv_at hl 1 rfl) ?_
  refine lv_bipush (v := 6) hx hb dL_isRelay_37 (by decide) ?_
  refine lv_iadd hx hb dL_isRelay_39 ?_
  refine hh_seti (y := (nI (20 * k + 6))) (lwAdd (a := 20 * k) (b := 6) (by omega)) ?_
  refine lr_ll hx hb hK hP 0 1 (e0 := 20 * k + 6) rfl rfl (by omega) (by decide) dL_isRelay_40 ?_
  refine lw_El (rv := (f_L_within_j1_1 ((fw (20 * k + 13)) + (fw (20 * k + 11))) (fw (20 * k + 5)) (fw (20 * k + 6)))) (rest := []) (va_runS (As := [.long ((fw (20 * k + 13)) + (fw (20 * k + 11))), .long (fw (20 * k + 5)), .long (fw (20 * k + 6))]) (rest := []) ⟨hx, hb, hml, hown, hts⟩ (c_L_within l dC dI cI cJ cZ cO ((fw (20 * k + 13)) + (fw (20 * k + 11))) (fw (20 * k + 5)) (fw (20 * k + 6)) _) (va_cwS 3 hts (gd_S wd_3_183 wd_3_184 wd_1_0 wd_3_185) rfl rfl rfl (by decide +kernel) ⟨Nat.le_of_ble_eq_true rfl, Nat.le_of_ble_eq_true rfl⟩) (lw_S0 gN_c (fun U _ hW => gN_w hW hG) hK) rfl rfl hl.1 rfl (lv_room (Nat.le_of_ble_eq_true rfl)) dL_isRelay_41 hcs) hP hD hS hA (fun H locs hP hD hS => ?_)
  refine lv_lstore (lv' := [(13, .long (f_L_within_j1_1 ((fw (20 * k + 13)) + (fw (20 * k + 11))) (fw (20 * k + 5)) (fw (20 * k + 6)))), (11, .long (sp - y)), (10, .int (nI (20 * k))), (0, .ref adB), (1, .ref adW), (2, .int (nI k)), (3, .long ou), (5, .long y), (7, .long sp), (9, .ref adN)]) hx hb dL_isRelay_44 hl (by decide) rfl (fun ls hl => ?_)
  refine lv_aload_n hx hb dL_isRelay_46 rfl (lv_at hl 4 rfl) ?_
  refine lv_iload hx hb dL_isRelay_47 (lv_at hl 2 rfl) ?_
  refine lv_bipush (v := 13) hx hb dL_isRelay_49 (by decide) ?_
  refine lv_iadd hx hb dL_isRelay_51 ?_
  refine hh_seti (y := (nI (20 * k + 13))) (lwAdd (a := 20 * k) (b := 13) (by omega)) ?_
  refine lr_ll hx hb hK hP 0 1 (e0 := 20 * k + 13) rfl rfl (by omega) (by decide) dL_isRelay_52 ?_
  refine lv_aload_n hx hb dL_isRelay_53 rfl (lv_at hl 4 rfl) ?_
  refine lv_iload hx hb dL_isRelay_54 (lv_at hl 2 rfl) ?_
  refine lv_bipush (v := 11) hx hb dL_isRelay_56 (by decide) ?_
  refine lv_iadd hx hb dL_isRelay_58 ?_
  refine hh_seti (y := (nI (20 * k + 11))) (lwAdd (a := 20 * k) (b := 11) (by omega)) ?_
  refine lr_ll hx hb hK hP 0 1 (e0 := 20 * k + 11) rfl rfl (by omega) (by decide) dL_isRelay_59 ?_
  refine lv_lsub hx hb dL_isRelay_60 ?_
  refine lv_aload_n hx hb dL_isRelay_61 rfl (lv_at hl 4 rfl) ?_
  refine lv_iload hx hb dL_isRelay_62 (lv_at hl 2 rfl) ?_
  refine lv_iconst (v := 5) hx hb dL_isRelay_64 (by decide) ?_
  refine lv_iadd hx hb dL_isRelay_65 ?_
  refine hh_seti (y := (nI (20 * k + 5))) (lwAdd (a := 20 * k) (b := 5) (by omega)) ?_
  refine lr_ll hx hb hK hP 0 1 (e0 := 20 * k + 5) rfl rfl (by omega) (by decide) dL_isRelay_66 ?_
  refine lv_aload_n hx hb dL_isRelay_67 rfl (lv_at hl 4 rfl) ?_
  refine lv_iload hx hb dL_isRelay_68 (lv_at hl 2 rfl) ?_
  refine lv_bipush (v := 6) hx hb dL_isRelay_70 (by decide) ?_
  refine lv_iadd hx hb dL_isRelay_72 ?_
  refine hh_seti (y := (nI (20 * k + 6))) (lwAdd (a := 20 * k) (b := 6) (by omega)) ?_
  refine lr_ll hx hb hK hP 0 1 (e0 := 20 * k + 6) rfl rfl (by omega) (by decide) dL_isRelay_73 ?_
  refine lw_El (rv := (f_L_within_j1_1 ((fw (20 * k + 13)) - (fw (20 * k + 11))) (fw (20 * k + 5)) (fw (20 * k + 6)))) (rest := []) (va_runS (As := [.long ((fw (20 * k + 13)) - (fw (20 * k + 11))), .long (fw (20 * k + 5)), .long (fw (20 * k + 6))]) (rest := []) ⟨hx, hb, hml, hown, hts⟩ (c_L_within l dC dI cI cJ cZ cO ((fw (20 * k + 13)) - (fw (20 * k + 11))) (fw (20 * k + 5)) (fw (20 * k + 6)) _) (va_cwS 3 hts (gd_S wd_3_183 wd_3_184 wd_1_0 wd_3_185) rfl rfl rfl (by decide +kernel) ⟨Nat.le_of_ble_eq_true rfl, Nat.le_of_ble_eq_true rfl⟩) (lw_S0 gN_c (fun U _ hW => gN_w hW hG) hK) rfl rfl hl.1 rfl (lv_room (Nat.le_of_ble_eq_true rfl)) dL_isRelay_74 hcs) hP hD hS hA (fun H locs hP hD hS => ?_)
  refine lv_lstore (lv' := [(15, .long (f_L_within_j1_1 ((fw (20 * k + 13)) - (fw (20 * k + 11))) (fw (20 * k + 5)) (fw (20 * k + 6)))), (13, .long (f_L_within_j1_1 ((fw (20 * k + 13)) + (fw (20 * k + 11))) (fw (20 * k + 5)) (fw (20 * k + 6)))), (11, .long (sp - y)), (10, .int (nI (20 * k))), (0, .ref adB), (1, .ref adW), (2, .int (nI k)), (3, .long ou), (5, .long y), (7, .long sp), (9, .ref adN)]) hx hb dL_isRelay_77 hl (by decide) rfl (fun ls hl => ?_)
  have J1 : ∀ (H : Heap) (locs : List Loc) (ls : Array Slot), va_P (dC, dI) vwCl ([zAJ cJ adW 60 fw, zAJ cJ adU 33 fu, zAJ cJ adG 60 fg, zAI cI adN 6 fn] ++ wB cI cJ cO adB adA lf bs a T) H → va_D A ([zAJ cJ adW 60 fw, zAJ cJ adU 33 fu, zAJ cJ adG 60 fg, zAI cI adN 6 fn] ++ wB cI cJ cO adB adA lf bs a T) → va_S A s.heap H locs → lv_has ls 21 [(15, .long (f_L_within_j1_1 ((fw (20 * k + 13)) - (fw (20 * k + 11))) (fw (20 * k + 5)) (fw (20 * k + 6)))), (13, .long (f_L_within_j1_1 ((fw (20 * k + 13)) + (fw (20 * k + 11))) (fw (20 * k + 5)) (fw (20 * k + 6)))), (11, .long (sp - y)), (10, .int (nI (20 * k))), (0, .ref adB), (1, .ref adW), (2, .int (nI k)), (3, .long ou), (5, .long y), (7, .long sp), (9, .ref adN)] → W p l e (headSpec (Cond.code yL_isRelay cL_isRelay 21 (some .boolean) :: wAll) ({ frames := 5, cells := 0, slots := 0, locals := 124 })).room s m ([.ref adB, .ref adW, .int (nI k), .long ou, .long y, .long sp, .ref adN] : List Value).toArray below meth c H locs (0) (0) Q (F0 m 139 ls [.int (1 : Int32)]) := by
    intro H locs ls hP hD hS hl
    refine lv_istore (lv' := [(17, .int (1 : Int32)), (15, .long (f_L_within_j1_1 ((fw (20 * k + 13)) - (fw (20 * k + 11))) (fw (20 * k + 5)) (fw (20 * k + 6)))), (13, .long (f_L_within_j1_1 ((fw (20 * k + 13)) + (fw (20 * k + 11))) (fw (20 * k + 5)) (fw (20 * k + 6)))), (11, .long (sp - y)), (10, .int (nI (20 * k))), (0, .ref adB), (1, .ref adW), (2, .int (nI k)), (3, .long ou), (5, .long y), (7, .long sp), (9, .ref adN)]) hx hb dL_isRelay_139 hl (by decide) rfl (fun ls hl => ?_)
    refine lv_aload hx hb dL_isRelay_141 (lv_at hl 11 rfl) ?_
    refine lv_iconst (v := 3) hx hb dL_isRelay_143 (by decide) ?_
    refine lv_iload_n hx hb dL_isRelay_144 rfl (lv_at hl 7 rfl) ?_
    refine lv_iadd hx hb dL_isRelay_145 ?_
    refine hh_seti (y := (nI (k + 3))) (lwAdd (a := 3) (b := k) (by omega)) ?_
    refine lv_dup2_11 hx hb dL_isRelay_146 rfl rfl ?_
    refine lr_il hx hb hK hP 3 0 (e0 := k + 3) rfl rfl (by omega) (by decide) dL_isRelay_147 ?_
    refine lv_iconst (v := 1) hx hb dL_isRelay_148 (by decide) ?_
    refine lv_iadd hx hb dL_isRelay_149 ?_
    refine lr_is hx hb hK hP hD hS 3 0 (e0 := k + 3) rfl rfl (by omega) (by decide) dL_isRelay_150 (w1 := ([zAJ cJ adW 60 fw, zAJ cJ adU 33 fu, zAJ cJ adG 60 fg, zAI cI adN 6 (upd fn (k + 3) ((fn (k + 3)) + (1 : Int32)))] ++ wB cI cJ cO adB adA lf bs a T)) rfl (fun H locs hP hD hS => ?_)
    refine lv_aload_n hx hb dL_isRelay_151 rfl (lv_at hl 5 rfl) ?_
    refine lv_iload_n hx hb dL_isRelay_152 rfl (lv_at hl 7 rfl) ?_
    refine s_mode (k := k)  K hk  ⟨Nat.le_of_ble_eq_true rfl, Nat.le_of_ble_eq_true rfl⟩ hcs (Nat.le_of_ble_eq_true rfl) hP hD hS hA hl.1 dL_isRelay_153 (fun H locs hP hD hS => ?_)
    refine hh_seti (y := (yl_lmo (T k))) (rfl) ?_
    refine lv_iconst (v := 3) hx hb dL_isRelay_156 (by decide) ?_
    refine lv_icmp_ne (tgt := 192) hx hb dL_isRelay_157 (by decide) (fun hm => ?_) (fun hm => ?_)
    · skip
      refine lv_ldc2 (v := 1000) hx hb hown (hts _ wd_3_41) dL_isRelay_192 ?_
      refine lv_aload_n hx hb dL_isRelay_195 rfl (lv_at hl 6 rfl) ?_
      refine lv_iload hx hb dL_isRelay_196 (lv_at hl 4 rfl) ?_
      refine lv_bipush (v := 13) hx hb dL_isRelay_198 (by decide) ?_
      refine lv_iadd hx hb dL_isRelay_200 ?_
      refine hh_seti (y := (nI (20 * k + 13))) (lwAdd (a := 20 * k) (b := 13) (by omega)) ?_
      refine lr_ll hx hb hK hP 0 1 (e0 := 20 * k + 13) rfl rfl (by omega) (by decide) dL_isRelay_201 ?_
      refine lv_lmul hx hb dL_isRelay_202 ?_
      refine lv_aload_n hx hb dL_isRelay_203 rfl (lv_at hl 5 rfl) ?_
      refine lv_iload_n hx hb dL_isRelay_204 rfl (lv_at hl 7 rfl) ?_
      refine lv_iconst (v := 0) hx hb dL_isRelay_205 (by decide) ?_
      refine s_gain (k := k) (wh := (0 : Int32)) K hk (by decide) (by decide) ⟨Nat.le_of_ble_eq_true rfl, Nat.le_of_ble_eq_true rfl⟩ hcs (Nat.le_of_ble_eq_true rfl) hP hD hS hA hl.1 dL_isRelay_206 (fun H locs hP hD hS => ?_)
      refine hh_seti (y := (yl_kp (T k))) (rfl) ?_
      refine lv_i2l hx hb dL_isRelay_209 rfl ?_
      refine lv_lload hx hb dL_isRelay_210 (lv_at hl 3 rfl) ?_
      refine lv_lmul hx hb dL_isRelay_212 ?_
      refine lv_lsub hx hb dL_isRelay_213 ?_
      refine lv_aload_n hx hb dL_isRelay_214 rfl (lv_at hl 5 rfl) ?_
      refine lv_iload_n hx hb dL_isRelay_215 rfl (lv_at hl 7 rfl) ?_
      refine lv_iconst (v := 2) hx hb dL_isRelay_216 (by decide) ?_
      refine s_gain (k := k) (wh := (2 : Int32)) K hk (by decide) (by decide) ⟨Nat.le_of_ble_eq_true rfl, Nat.le_of_ble_eq_true rfl⟩ hcs (Nat.le_of_ble_eq_true rfl) hP hD hS hA hl.1 dL_isRelay_217 (fun H locs hP hD hS => ?_)
      refine hh_seti (y := (yl_kd (T k))) (rfl) ?_
      refine lv_i2l hx hb dL_isRelay_220 rfl ?_
      refine lv_aload_n hx hb dL_isRelay_221 rfl (lv_at hl 6 rfl) ?_
      refine lv_iload hx hb dL_isRelay_222 (lv_at hl 4 rfl) ?_
      refine lv_bipush (v := 10) hx hb dL_isRelay_224 (by decide) ?_
      refine lv_iadd hx hb dL_isRelay_226 ?_
      refine hh_seti (y := (nI (20 * k + 10))) (lwAdd (a := 20 * k) (b := 10) (by omega)) ?_
      refine lr_ll hx hb hK hP 0 1 (e0 := 20 * k + 10) rfl rfl (by omega) (by decide) dL_isRelay_227 ?_
      refine lv_lload hx hb dL_isRelay_228 (lv_at hl 9 rfl) ?_
      refine lv_lsub hx hb dL_isRelay_230 ?_
      refine lv_lmul hx hb dL_isRelay_231 ?_
      refine lv_lsub hx hb dL_isRelay_232 ?_
      refine lv_lstore (lv' := [(18, .long ((((1000 : Int64) * (fw (20 * k + 13))) - (((yl_kp (T k)).toInt64) * (sp - y))) - (((yl_kd (T k)).toInt64) * ((fw (20 * k + 10)) - y)))), (17, .int (1 : Int32)), (15, .long (f_L_within_j1_1 ((fw (20 * k + 13)) - (fw (20 * k + 11))) (fw (20 * k + 5)) (fw (20 * k + 6)))), (13, .long (f_L_within_j1_1 ((fw (20 * k + 13)) + (fw (20 * k + 11))) (fw (20 * k + 5)) (fw (20 * k + 6)))), (11, .long (sp - y)), (10, .int (nI (20 * k))), (0, .ref adB), (1, .ref adW), (2, .int (nI k)), (3, .long ou), (5, .long y), (7, .long sp), (9, .ref adN)]) hx hb dL_isRelay_233 hl (by decide) rfl (fun ls hl => ?_)
      refine lv_aload_n hx hb dL_isRelay_235 rfl (lv_at hl 6 rfl) ?_
      refine lv_iload_n hx hb dL_isRelay_236 rfl (lv_at hl 8 rfl) ?_
      refine s_experiment (k := k)  K hk  ⟨Nat.le_of_ble_eq_true rfl, Nat.le_of_ble_eq_true rfl⟩ hcs (Nat.le_of_ble_eq_true rfl) hP hD hS hA hl.1 dL_isRelay_237 (fun H locs hP hD hS => ?_)
      refine hh_seti (y := (yl_rpr (T k))) (rfl) ?_
      refine lv_istore (lv' := [(20, .int (yl_rpr (T k))), (18, .long ((((1000 : Int64) * (fw (20 * k + 13))) - (((yl_kp (T k)).toInt64) * (sp - y))) - (((yl_kd (T k)).toInt64) * ((fw (20 * k + 10)) - y)))), (17, .int (1 : Int32)), (15, .long (f_L_within_j1_1 ((fw (20 * k + 13)) - (fw (20 * k + 11))) (fw (20 * k + 5)) (fw (20 * k + 6)))), (13, .long (f_L_within_j1_1 ((fw (20 * k + 13)) + (fw (20 * k + 11))) (fw (20 * k + 5)) (fw (20 * k + 6)))), (11, .long (sp - y)), (10, .int (nI (20 * k))), (0, .ref adB), (1, .ref adW), (2, .int (nI k)), (3, .long ou), (5, .long y), (7, .long sp), (9, .ref adN)]) hx hb dL_isRelay_240 hl (by decide) rfl (fun ls hl => ?_)
      refine lv_iload hx hb dL_isRelay_242 (lv_at hl 2 rfl) ?_
      refine lv_if_eq (tgt := 317) hx hb dL_isRelay_244 (by decide) (fun h9 => absurd h9 (by decide)) (fun _ => ?_)
      refine lv_aload_n hx hb dL_isRelay_247 rfl (lv_at hl 7 rfl) ?_
      refine lv_iload_n hx hb dL_isRelay_248 rfl (lv_at hl 9 rfl) ?_
      refine s_mode (k := k)  K hk  ⟨Nat.le_of_ble_eq_true rfl, Nat.le_of_ble_eq_true rfl⟩ hcs (Nat.le_of_ble_eq_true rfl) hP hD hS hA hl.1 dL_isRelay_249 (fun H locs hP hD hS => ?_)
      refine hh_seti (y := (yl_lmo (T k))) (rfl) ?_
      refine lv_iconst (v := 1) hx hb dL_isRelay_252 (by decide) ?_
      refine lv_icmp_ne (tgt := 317) hx hb dL_isRelay_253 (by decide) (fun h9 => absurd (c1 hm) h9) (fun _ => ?_)
      refine lv_iload hx hb dL_isRelay_256 (lv_at hl 0 rfl) ?_
      refine lv_iconst (v := 2) hx hb dL_isRelay_258 (by decide) ?_
      refine lv_icmp_eq (tgt := 280) hx hb dL_isRelay_259 (by decide) (fun e4 => ?_) (fun e4 => ?_)
      · skip
        refine lv_aload_n hx hb dL_isRelay_280 rfl (lv_at hl 7 rfl) ?_
        refine lv_iload_n hx hb dL_isRelay_281 rfl (lv_at hl 9 rfl) ?_
        refine s_integral (k := k)  K hk  ⟨Nat.le_of_ble_eq_true rfl, Nat.le_of_ble_eq_true rfl⟩ hcs (Nat.le_of_ble_eq_true rfl) hP hD hS hA hl.1 dL_isRelay_282 (fun H locs hP hD hS => ?_)
        refine hh_setl (y := (yl_kig (T k))) (rfl) ?_
        refine lv_lload hx hb dL_isRelay_285 (lv_at hl 1 rfl) ?_
        refine hh_cne (tgt := 317) hx hb dL_isRelay_287 dL_isRelay_288 (by decide) (fun h9 => absurd (c4 hm) h9) (fun _ => ?_)
        refine lv_iload hx hb dL_isRelay_291 (lv_at hl 0 rfl) ?_
        refine lv_iconst (v := 2) hx hb dL_isRelay_293 (by decide) ?_
        refine lv_icmp_ne (tgt := 313) hx hb dL_isRelay_294 (by decide) (fun h9 => absurd (e4) h9) (fun _ => ?_)
        refine lv_aload_n hx hb dL_isRelay_297 rfl (lv_at hl 7 rfl) ?_
        refine lv_iload_n hx hb dL_isRelay_298 rfl (lv_at hl 9 rfl) ?_
        refine lv_aload_n hx hb dL_isRelay_299 rfl (lv_at hl 8 rfl) ?_
        refine lv_iload hx hb dL_isRelay_300 (lv_at hl 6 rfl) ?_
        refine lv_bipush (v := 11) hx hb dL_isRelay_302 (by decide) ?_
        refine lv_iadd hx hb dL_isRelay_304 ?_
        refine hh_seti (y := (nI (20 * k + 11))) (lwAdd (a := 20 * k) (b := 11) (by omega)) ?_
        refine lr_ll hx hb hK hP 0 1 (e0 := 20 * k + 11) rfl rfl (by omega) (by decide) dL_isRelay_305 ?_
        refine lv_l2i hx hb dL_isRelay_306 rfl ?_
        refine lw_RS (S := Unit) (wl := []) (wr := ([zAJ cJ adW 60 fw, zAJ cJ adU 33 fu, zAJ cJ adG 60 fg, zAI cI adN 6 (upd fn (k + 3) ((fn (k + 3)) + (1 : Int32)))] ++ wB cI cJ cO adB adA lf bs a T)) (wq := fun u => ([zAJ cJ adW 60 fw, zAJ cJ adU 33 fu, zAJ cJ adG 60 fg, zAI cI adN 6 (upd fn (k + 3) ((fn (k + 3)) + (1 : Int32)))] ++ wB cI cJ cO adB adA lf bs a T)) (rest := []) (va_runS (As := [.ref adB, .int (nI k), .int (fw (20 * k + 11)).toInt32]) (rest := []) ⟨hx, hb, hml, hown, hts⟩ (c_L_isTold l dC dI cI cJ cZ cO adB adA adW adU adG adN lf a bs T fw fu fg (upd fn (k + 3) ((fn (k + 3)) + (1 : Int32))) k ((fw (20 * k + 11)).toInt32) _ hlf hk (c5 hm e4)) (va_cwS 3 hts (gd_S wd_3_189 wd_3_190 wd_1_0 wd_3_191) rfl rfl rfl (by decide +kernel) ⟨Nat.le_of_ble_eq_true rfl, Nat.le_of_ble_eq_true rfl⟩) (lw_S2 (wl := []) gN_c (fun U _ hW => gN_w hW hG) hK (List.Perm.refl _) hP hD) rfl rfl hl.1 rfl (lv_room (Nat.le_of_ble_eq_true rfl)) dL_isRelay_307 hcs) hP hD hS hA (fun r u H locs hpost hP hD hS => ?_)
        subst hpost
        have hP : va_P (dC, dI) vwCl ([zAJ cJ adW 60 fw, zAJ cJ adU 33 fu, zAJ cJ adG 60 fg, zAI cI adN 6 (upd fn (k + 3) ((fn (k + 3)) + (1 : Int32)))] ++ wB cI cJ cO adB adA lf bs a T) H := hP
        have hD : va_D A ([zAJ cJ adW 60 fw, zAJ cJ adU 33 fu, zAJ cJ adG 60 fg, zAI cI adN 6 (upd fn (k + 3) ((fn (k + 3)) + (1 : Int32)))] ++ wB cI cJ cO adB adA lf bs a T) := hD
        refine lv_if_eq (tgt := 317) hx hb dL_isRelay_310 (by decide) (fun h9 => absurd h9 (by decide)) (fun _ => ?_)
        refine lv_iconst (v := 1) hx hb dL_isRelay_313 (by decide) ?_
        refine lv_goto (tgt := 318) hx hb dL_isRelay_314 (by decide) ?_
        exact hh_retS (w := fun (u : Unit) => ([zAJ cJ adW 60 fw, zAJ cJ adU 33 fu, zAJ cJ adG 60 fg, zAI cI adN 6 (upd fn (k + 3) ((fn (k + 3)) + (1 : Int32)))] ++ wB cI cJ cO adB adA lf bs a T)) (()) hQ (rfl) (rfl) hx hb hr hlocks hP hK hD hS dL_isRelay_318
      · skip
        refine lv_iload hx hb dL_isRelay_262 (lv_at hl 0 rfl) ?_
        refine lv_iconst (v := 3) hx hb dL_isRelay_264 (by decide) ?_
        refine lv_icmp_ne (tgt := 317) hx hb dL_isRelay_265 (by decide) (fun h9 => absurd (c2 hm e4) h9) (fun _ => ?_)
        refine lv_aload hx hb dL_isRelay_268 (lv_at hl 13 rfl) ?_
        refine lv_iconst (v := 3) hx hb dL_isRelay_270 (by decide) ?_
        refine lv_iload_n hx hb dL_isRelay_271 rfl (lv_at hl 9 rfl) ?_
        refine lv_iadd hx hb dL_isRelay_272 ?_
        refine hh_seti (y := (nI (k + 3))) (lwAdd (a := 3) (b := k) (by omega)) ?_
        refine lr_il hx hb hK hP 3 0 (e0 := k + 3) rfl rfl (by omega) (by decide) dL_isRelay_273 ?_
        refine hh_seti (y := ((fn (k + 3)) + (1 : Int32))) ((u_eq _ _ _).symm) ?_
        refine lv_sipush (v := 400) hx hb dL_isRelay_274 (by decide) ?_
        refine lv_icmp_ne (tgt := 317) hx hb dL_isRelay_277 (by decide) (fun h9 => absurd (c3 hm e4) h9) (fun _ => ?_)
        refine lv_aload_n hx hb dL_isRelay_280 rfl (lv_at hl 7 rfl) ?_
        refine lv_iload_n hx hb dL_isRelay_281 rfl (lv_at hl 9 rfl) ?_
        refine s_integral (k := k)  K hk  ⟨Nat.le_of_ble_eq_true rfl, Nat.le_of_ble_eq_true rfl⟩ hcs (Nat.le_of_ble_eq_true rfl) hP hD hS hA hl.1 dL_isRelay_282 (fun H locs hP hD hS => ?_)
        refine hh_setl (y := (yl_kig (T k))) (rfl) ?_
        refine lv_lload hx hb dL_isRelay_285 (lv_at hl 1 rfl) ?_
        refine hh_cne (tgt := 317) hx hb dL_isRelay_287 dL_isRelay_288 (by decide) (fun h9 => absurd (c4 hm) h9) (fun _ => ?_)
        refine lv_iload hx hb dL_isRelay_291 (lv_at hl 0 rfl) ?_
        refine lv_iconst (v := 2) hx hb dL_isRelay_293 (by decide) ?_
        refine lv_icmp_ne (tgt := 313) hx hb dL_isRelay_294 (by decide) (fun _ => ?_) (fun h9 => absurd h9 (e4))
        refine lv_iconst (v := 1) hx hb dL_isRelay_313 (by decide) ?_
        refine lv_goto (tgt := 318) hx hb dL_isRelay_314 (by decide) ?_
        exact hh_retS (w := fun (u : Unit) => ([zAJ cJ adW 60 fw, zAJ cJ adU 33 fu, zAJ cJ adG 60 fg, zAI cI adN 6 (upd fn (k + 3) ((fn (k + 3)) + (1 : Int32)))] ++ wB cI cJ cO adB adA lf bs a T)) (()) hQ (rfl) (rfl) hx hb hr hlocks hP hK hD hS dL_isRelay_318
    · skip
      refine lv_iload hx hb dL_isRelay_160 (lv_at hl 0 rfl) ?_
      refine lv_if_eq (tgt := 190) hx hb dL_isRelay_162 (by decide) (fun h9 => absurd h9 (by decide)) (fun _ => ?_)
      refine lv_aload_n hx hb dL_isRelay_165 rfl (lv_at hl 5 rfl) ?_
      refine lv_iload_n hx hb dL_isRelay_166 rfl (lv_at hl 7 rfl) ?_
      refine s_experiment (k := k)  K hk  ⟨Nat.le_of_ble_eq_true rfl, Nat.le_of_ble_eq_true rfl⟩ hcs (Nat.le_of_ble_eq_true rfl) hP hD hS hA hl.1 dL_isRelay_167 (fun H locs hP hD hS => ?_)
      refine hh_seti (y := (yl_rpr (T k))) (rfl) ?_
      refine lv_iconst (v := 1) hx hb dL_isRelay_170 (by decide) ?_
      refine lv_icmp_ne (tgt := 190) hx hb dL_isRelay_171 (by decide) (fun h9 => absurd (b1 hm) h9) (fun _ => ?_)
      refine lv_aload hx hb dL_isRelay_174 (lv_at hl 11 rfl) ?_
      refine lv_iconst (v := 3) hx hb dL_isRelay_176 (by decide) ?_
      refine lv_iload_n hx hb dL_isRelay_177 rfl (lv_at hl 7 rfl) ?_
      refine lv_iadd hx hb dL_isRelay_178 ?_
      refine hh_seti (y := (nI (k + 3))) (lwAdd (a := 3) (b := k) (by omega)) ?_
      refine lr_il hx hb hK hP 3 0 (e0 := k + 3) rfl rfl (by omega) (by decide) dL_isRelay_179 ?_
      refine hh_seti (y := ((fn (k + 3)) + (1 : Int32))) ((u_eq _ _ _).symm) ?_
      refine lv_sipush (v := 400) hx hb dL_isRelay_180 (by decide) ?_
      refine lv_icmp_ge (tgt := 190) hx hb dL_isRelay_183 (by decide) (fun h9 => absurd h9 (b2 hm)) (fun _ => ?_)
      refine lv_iconst (v := 1) hx hb dL_isRelay_186 (by decide) ?_
      refine lv_goto (tgt := 191) hx hb dL_isRelay_187 (by decide) ?_
      exact hh_retS (w := fun (u : Unit) => ([zAJ cJ adW 60 fw, zAJ cJ adU 33 fu, zAJ cJ adG 60 fg, zAI cI adN 6 (upd fn (k + 3) ((fn (k + 3)) + (1 : Int32)))] ++ wB cI cJ cO adB adA lf bs a T)) (()) hQ (rfl) (rfl) hx hb hr hlocks hP hK hD hS dL_isRelay_191
  refine lv_lload_n hx hb dL_isRelay_79 rfl (lv_at hl 7 rfl) ?_
  refine lv_lload hx hb dL_isRelay_80 (lv_at hl 1 rfl) ?_
  refine hh_ceq (tgt := 93) hx hb dL_isRelay_82 dL_isRelay_83 (by decide) (fun e1 => ?_) (fun e1 => ?_)
  · skip
    refine lv_lload hx hb dL_isRelay_93 (lv_at hl 2 rfl) ?_
    refine lv_aload_n hx hb dL_isRelay_95 rfl (lv_at hl 5 rfl) ?_
    refine lv_iload hx hb dL_isRelay_96 (lv_at hl 3 rfl) ?_
    refine lv_bipush (v := 12) hx hb dL_isRelay_98 (by decide) ?_
    refine lv_iadd hx hb dL_isRelay_100 ?_
    refine hh_seti (y := (nI (20 * k + 12))) (lwAdd (a := 20 * k) (b := 12) (by omega)) ?_
    refine lr_ll hx hb hK hP 0 1 (e0 := 20 * k + 12) rfl rfl (by omega) (by decide) dL_isRelay_101 ?_
    refine hh_cle (tgt := 113) hx hb dL_isRelay_102 dL_isRelay_103 (by decide) (fun e2 => ?_) (fun e2 => ?_)
    · skip
      refine lv_lload hx hb dL_isRelay_113 (lv_at hl 2 rfl) ?_
      refine lv_aload_n hx hb dL_isRelay_115 rfl (lv_at hl 5 rfl) ?_
      refine lv_iload hx hb dL_isRelay_116 (lv_at hl 3 rfl) ?_
      refine lv_bipush (v := 12) hx hb dL_isRelay_118 (by decide) ?_
      refine lv_iadd hx hb dL_isRelay_120 ?_
      refine hh_seti (y := (nI (20 * k + 12))) (lwAdd (a := 20 * k) (b := 12) (by omega)) ?_
      refine lr_ll hx hb hK hP 0 1 (e0 := 20 * k + 12) rfl rfl (by omega) (by decide) dL_isRelay_121 ?_
      refine lv_lneg hx hb dL_isRelay_122 ?_
      refine hh_cge (tgt := 134) hx hb dL_isRelay_123 dL_isRelay_124 (by decide) (fun e3 => ?_) (fun e3 => ?_)
      · skip
        refine lv_iconst (v := 1) hx hb dL_isRelay_134 (by decide) ?_
        refine lv_goto (tgt := 139) hx hb dL_isRelay_135 (by decide) ?_
        exact J1 H locs ls hP hD hS (lv_sub hl [0, 1, 2, 3, 4, 5, 6, 7, 8, 9, 10] rfl)
      · skip
        refine lv_lload_n hx hb dL_isRelay_127 rfl (lv_at hl 7 rfl) ?_
        refine lv_lload hx hb dL_isRelay_128 (lv_at hl 0 rfl) ?_
        refine hh_cne (tgt := 138) hx hb dL_isRelay_130 dL_isRelay_131 (by decide) (fun h9 => absurd (a3 e3) h9) (fun _ => ?_)
        refine lv_iconst (v := 1) hx hb dL_isRelay_134 (by decide) ?_
        refine lv_goto (tgt := 139) hx hb dL_isRelay_135 (by decide) ?_
        exact J1 H locs ls hP hD hS (lv_sub hl [0, 1, 2, 3, 4, 5, 6, 7, 8, 9, 10] rfl)
    · skip
      refine lv_lload_n hx hb dL_isRelay_106 rfl (lv_at hl 7 rfl) ?_
      refine lv_lload hx hb dL_isRelay_107 (lv_at hl 1 rfl) ?_
      refine hh_cne (tgt := 138) hx hb dL_isRelay_109 dL_isRelay_110 (by decide) (fun h9 => absurd (a2 e2) h9) (fun _ => ?_)
      refine lv_lload hx hb dL_isRelay_113 (lv_at hl 2 rfl) ?_
      refine lv_aload_n hx hb dL_isRelay_115 rfl (lv_at hl 5 rfl) ?_
      refine lv_iload hx hb dL_isRelay_116 (lv_at hl 3 rfl) ?_
      refine lv_bipush (v := 12) hx hb dL_isRelay_118 (by decide) ?_
      refine lv_iadd hx hb dL_isRelay_120 ?_
      refine hh_seti (y := (nI (20 * k + 12))) (lwAdd (a := 20 * k) (b := 12) (by omega)) ?_
      refine lr_ll hx hb hK hP 0 1 (e0 := 20 * k + 12) rfl rfl (by omega) (by decide) dL_isRelay_121 ?_
      refine lv_lneg hx hb dL_isRelay_122 ?_
      refine hh_cge (tgt := 134) hx hb dL_isRelay_123 dL_isRelay_124 (by decide) (fun e3 => ?_) (fun e3 => ?_)
      · skip
        refine lv_iconst (v := 1) hx hb dL_isRelay_134 (by decide) ?_
        refine lv_goto (tgt := 139) hx hb dL_isRelay_135 (by decide) ?_
        exact J1 H locs ls hP hD hS (lv_sub hl [0, 1, 2, 3, 4, 5, 6, 7, 8, 9, 10] rfl)
      · skip
        refine lv_lload_n hx hb dL_isRelay_127 rfl (lv_at hl 7 rfl) ?_
        refine lv_lload hx hb dL_isRelay_128 (lv_at hl 0 rfl) ?_
        refine hh_cne (tgt := 138) hx hb dL_isRelay_130 dL_isRelay_131 (by decide) (fun h9 => absurd (a3 e3) h9) (fun _ => ?_)
        refine lv_iconst (v := 1) hx hb dL_isRelay_134 (by decide) ?_
        refine lv_goto (tgt := 139) hx hb dL_isRelay_135 (by decide) ?_
        exact J1 H locs ls hP hD hS (lv_sub hl [0, 1, 2, 3, 4, 5, 6, 7, 8, 9, 10] rfl)
  · skip
    refine lv_lload_n hx hb dL_isRelay_86 rfl (lv_at hl 7 rfl) ?_
    refine lv_lload hx hb dL_isRelay_87 (lv_at hl 0 rfl) ?_
    refine hh_cne (tgt := 138) hx hb dL_isRelay_89 dL_isRelay_90 (by decide) (fun h9 => absurd (a1 e1) h9) (fun _ => ?_)
    refine lv_lload hx hb dL_isRelay_93 (lv_at hl 2 rfl) ?_
    refine lv_aload_n hx hb dL_isRelay_95 rfl (lv_at hl 5 rfl) ?_
    refine lv_iload hx hb dL_isRelay_96 (lv_at hl 3 rfl) ?_
    refine lv_bipush (v := 12) hx hb dL_isRelay_98 (by decide) ?_
    refine lv_iadd hx hb dL_isRelay_100 ?_
    refine hh_seti (y := (nI (20 * k + 12))) (lwAdd (a := 20 * k) (b := 12) (by omega)) ?_
    refine lr_ll hx hb hK hP 0 1 (e0 := 20 * k + 12) rfl rfl (by omega) (by decide) dL_isRelay_101 ?_
    refine hh_cle (tgt := 113) hx hb dL_isRelay_102 dL_isRelay_103 (by decide) (fun e2 => ?_) (fun e2 => ?_)
    · skip
      refine lv_lload hx hb dL_isRelay_113 (lv_at hl 2 rfl) ?_
      refine lv_aload_n hx hb dL_isRelay_115 rfl (lv_at hl 5 rfl) ?_
      refine lv_iload hx hb dL_isRelay_116 (lv_at hl 3 rfl) ?_
      refine lv_bipush (v := 12) hx hb dL_isRelay_118 (by decide) ?_
      refine lv_iadd hx hb dL_isRelay_120 ?_
      refine hh_seti (y := (nI (20 * k + 12))) (lwAdd (a := 20 * k) (b := 12) (by omega)) ?_
      refine lr_ll hx hb hK hP 0 1 (e0 := 20 * k + 12) rfl rfl (by omega) (by decide) dL_isRelay_121 ?_
      refine lv_lneg hx hb dL_isRelay_122 ?_
      refine hh_cge (tgt := 134) hx hb dL_isRelay_123 dL_isRelay_124 (by decide) (fun e3 => ?_) (fun e3 => ?_)
      · skip
        refine lv_iconst (v := 1) hx hb dL_isRelay_134 (by decide) ?_
        refine lv_goto (tgt := 139) hx hb dL_isRelay_135 (by decide) ?_
        exact J1 H locs ls hP hD hS (lv_sub hl [0, 1, 2, 3, 4, 5, 6, 7, 8, 9, 10] rfl)
      · skip
        refine lv_lload_n hx hb dL_isRelay_127 rfl (lv_at hl 7 rfl) ?_
        refine lv_lload hx hb dL_isRelay_128 (lv_at hl 0 rfl) ?_
        refine hh_cne (tgt := 138) hx hb dL_isRelay_130 dL_isRelay_131 (by decide) (fun h9 => absurd (a3 e3) h9) (fun _ => ?_)
        refine lv_iconst (v := 1) hx hb dL_isRelay_134 (by decide) ?_
        refine lv_goto (tgt := 139) hx hb dL_isRelay_135 (by decide) ?_
        exact J1 H locs ls hP hD hS (lv_sub hl [0, 1, 2, 3, 4, 5, 6, 7, 8, 9, 10] rfl)
    · skip
      refine lv_lload_n hx hb dL_isRelay_106 rfl (lv_at hl 7 rfl) ?_
      refine lv_lload hx hb dL_isRelay_107 (lv_at hl 1 rfl) ?_
      refine hh_cne (tgt := 138) hx hb dL_isRelay_109 dL_isRelay_110 (by decide) (fun h9 => absurd (a2 e2) h9) (fun _ => ?_)
      refine lv_lload hx hb dL_isRelay_113 (lv_at hl 2 rfl) ?_
      refine lv_aload_n hx hb dL_isRelay_115 rfl (lv_at hl 5 rfl) ?_
      refine lv_iload hx hb dL_isRelay_116 (lv_at hl 3 rfl) ?_
      refine lv_bipush (v := 12) hx hb dL_isRelay_118 (by decide) ?_
      refine lv_iadd hx hb dL_isRelay_120 ?_
      refine hh_seti (y := (nI (20 * k + 12))) (lwAdd (a := 20 * k) (b := 12) (by omega)) ?_
      refine lr_ll hx hb hK hP 0 1 (e0 := 20 * k + 12) rfl rfl (by omega) (by decide) dL_isRelay_121 ?_
      refine lv_lneg hx hb dL_isRelay_122 ?_
      refine hh_cge (tgt := 134) hx hb dL_isRelay_123 dL_isRelay_124 (by decide) (fun e3 => ?_) (fun e3 => ?_)
      · skip
        refine lv_iconst (v := 1) hx hb dL_isRelay_134 (by decide) ?_
        refine lv_goto (tgt := 139) hx hb dL_isRelay_135 (by decide) ?_
        exact J1 H locs ls hP hD hS (lv_sub hl [0, 1, 2, 3, 4, 5, 6, 7, 8, 9, 10] rfl)
      · skip
        refine lv_lload_n hx hb dL_isRelay_127 rfl (lv_at hl 7 rfl) ?_
        refine lv_lload hx hb dL_isRelay_128 (lv_at hl 0 rfl) ?_
        refine hh_cne (tgt := 138) hx hb dL_isRelay_130 dL_isRelay_131 (by decide) (fun h9 => absurd (a3 e3) h9) (fun _ => ?_)
        refine lv_iconst (v := 1) hx hb dL_isRelay_134 (by decide) ?_
        refine lv_goto (tgt := 139) hx hb dL_isRelay_135 (by decide) ?_
        exact J1 H locs ls hP hD hS (lv_sub hl [0, 1, 2, 3, 4, 5, 6, 7, 8, 9, 10] rfl)
