set_option maxHeartbeats 4000000 in
set_option maxRecDepth 100000 in
theorem c_L_isSum (l : Launch) (dC : Nat → ClassId) (dI : Nat → Nat → Nat) (cI cJ cZ cO : ClassId) (adB adA adW adU adG adN : Nat) (lf : Nat → Option Nat) (a : Nat → AT) (bs : Int32) (T : Nat → LT) (fw fu fg : Nat → Int64) (fn : Nat → Int32) (k j : Nat) (er ou : Int64) (fr : Int32) (sz : Nat) (hlf : ∀ j : Nat, j < 3 → lf (nI j).toNatClampNeg = some (ya_adL (a j))) (hk : k < 3) (hj : j ≤ 5) (hn : fn k = nI j) (hg0 : j = 0 ∨ ∃ t1 t2 : Nat, t1 < j ∧ t2 < j ∧ fg (4 * t1 + 20 * k + 0 + 1) ≤ (yl_kp (T k)).toInt64 ∧ (yl_kp (T k)).toInt64 ≤ fg (4 * t2 + 20 * k + 0 + 1)) (hg1 : j = 0 ∨ ∃ t1 t2 : Nat, t1 < j ∧ t2 < j ∧ fg (4 * t1 + 20 * k + 1 + 1) ≤ (yl_ki (T k)).toInt64 ∧ (yl_ki (T k)).toInt64 ≤ fg (4 * t2 + 20 * k + 1 + 1)) (hg2 : j = 0 ∨ ∃ t1 t2 : Nat, t1 < j ∧ t2 < j ∧ fg (4 * t1 + 20 * k + 2 + 1) ≤ (yl_kd (T k)).toInt64 ∧ (yl_kd (T k)).toInt64 ≤ fg (4 * t2 + 20 * k + 2 + 1)) (qA : fw (20 * k + 15) = 1 → ou = (f_L_within_j1_1 ((fw (20 * k + 16)) + (f_L_floor_r ((yl_ki (T k)).toInt64 * er) (1000 : Int64))) (fw (20 * k + 5)) (fw (20 * k + 6)))) (qB : ¬ fr = 0 → fn k = 0 → (fw (20 * k + 15) = 1 ∨ ¬ fw (20 * k + 14) = 0) → (lr_outputByIncrements (T k)) = ou) : Met l yL_isSum (Cond.code yL_isSum cL_isSum 12 (some .boolean) :: wAll) ({ frames := 2, cells := 0, slots := 0, locals := 46 }) (va_Pc [.ref adB, .ref adW, .ref adG, .ref adN, .int (nI k), .long er, .long ou, .int fr] (gP (dC, dI) ([zAJ cJ adW 60 fw, zAJ cJ adU 33 fu, zAJ cJ adG 60 fg, zAI cI adN 6 fn] ++ wB cI cJ cO adB adA lf bs a T) (tyG cI cJ cZ cO) sz gN)) (va_Qi (fun r (u : Nat → Int64) => r = 1 ∧ (∀ i : Nat, ¬ i = 20 * k + 14 → u i = fw i) ∧ u (20 * k + 14) = (if fr = 0 then 0 else if fn k = 0 then (if fw (20 * k + 15) = 1 then 1 else fw (20 * k + 14)) else 0)) (fun u t => gB (dC, dI) (va_A ([zAJ cJ adW 60 fw, zAJ cJ adU 33 fu, zAJ cJ adG 60 fg, zAI cI adN 6 fn] ++ wB cI cJ cO adB adA lf bs a T) sz) ([zAJ cJ adW 60 u, zAJ cJ adU 33 fu, zAJ cJ adG 60 fg, zAI cI adN 6 fn] ++ wB cI cJ cO adB adA lf bs a T) (tyG cI cJ cZ cO) t) (va_A ([zAJ cJ adW 60 fw, zAJ cJ adU 33 fu, zAJ cJ adG 60 fg, zAI cI adN 6 fn] ++ wB cI cJ cO adB adA lf bs a T) sz)) 0 0 (va_A ([zAJ cJ adW 60 fw, zAJ cJ adU 33 fu, zAJ cJ adG 60 fg, zAI cI adN 6 fn] ++ wB cI cJ cO adB adA lf bs a T) sz) := by
  refine Met.ofW (cc := cL_isSum) (maxL := 12) (ret := (some .boolean)) (by decide) rfl ?_
  intro p e s m args below meth c s₁ B hml hv
  obtain ⟨rfl, hsz, hP, hK, hD0, hG⟩ := hv
  have hx := B.exec
  have hb := B.bytes
  have hr := B.returns
  have hts := ht_of B.pre
  have hown : s.vm.findClass RL = some m.cls := findClass_of_methodNamed B.named
  have hlocks := B.notSynchronized
  subst hsz
  have hD := hD0.self (sz := s.heap.size)
  generalize hAe : va_A ([zAJ cJ adW 60 fw, zAJ cJ adU 33 fu, zAJ cJ adG 60 fg, zAI cI adN 6 fn] ++ wB cI cJ cO adB adA lf bs a T) s.heap.size = A at hD ⊢
  have hA : ∀ q : Nat, s.heap.size ≤ q → A q := fun q h => by rw [← hAe]; exact Or.inr h
  have hS : va_S A s.heap s.heap [] := va_S.rf
  have hl := lv_entry ([.ref adB, .ref adW, .ref adG, .ref adN, .int (nI k), .long er, .long ou, .int fr]) (n := 12) (Nat.le_of_ble_eq_true rfl)
  rw [lg_entry_eq]
  generalize (lg_sl ([.ref adB, .ref adW, .ref adG, .ref adN, .int (nI k), .long er, .long ou, .int fr]) ++ List.replicate (12 - (lg_sl ([.ref adB, .ref adW, .ref adG, .ref adN, .int (nI k), .long er, .long ou, .int fr])).length) Slot.unset).toArray = ls at hl ⊢
  have hl : lv_has ls 12 [(0, .ref adB), (1, .ref adW), (2, .ref adG), (3, .ref adN), (4, .int (nI k)), (5, .long er), (7, .long ou), (9, .int fr)] := hl
  refine hh_name (fun Q hQ => ?_)
  have K := fx_mk hx hb hml hown hts hG hK hlf
  have hcs : (0 : Nat) ≤ 0 ∧ (0 : Nat) ≤ 0 := ⟨Nat.zero_le _, Nat.zero_le _⟩
  refine lv_bipush (v := 20) hx hb dL_isSum_0 (by decide) ?_
  refine lv_iload hx hb dL_isSum_2 (lv_at hl 4 rfl) ?_
  refine lv_imul hx hb dL_isSum_4 ?_
  refine hh_seti (y := (nI (20 * k))) (lwMul (a := 20) (b := k) (by omega)) ?_
  refine lv_istore (lv' := [(10, .int (nI (20 * k))), (0, .ref adB), (1, .ref adW), (2, .ref adG), (3, .ref adN), (4, .int (nI k)), (5, .long er), (7, .long ou), (9, .int fr)]) hx hb dL_isSum_5 hl (by decide) rfl (fun ls hl => ?_)
  refine lv_aload_n hx hb dL_isSum_7 rfl (lv_at hl 1 rfl) ?_
  refine lv_iload hx hb dL_isSum_8 (lv_at hl 5 rfl) ?_
  refine lv_iconst (v := 0) hx hb dL_isSum_10 (by decide) ?_
  refine s_gain (k := k) (wh := (0 : Int32)) K hk (by decide) (by decide) ⟨Nat.le_of_ble_eq_true rfl, Nat.le_of_ble_eq_true rfl⟩ hcs (Nat.le_of_ble_eq_true rfl) hP hD hS hA hl.1 dL_isSum_11 (fun H locs hP hD hS => ?_)
  refine hh_seti (y := (yl_kp (T k))) (rfl) ?_
  refine lv_i2l hx hb dL_isSum_14 rfl ?_
  refine lv_aload_n hx hb dL_isSum_15 rfl (lv_at hl 3 rfl) ?_
  refine lv_iload hx hb dL_isSum_16 (lv_at hl 5 rfl) ?_
  refine lv_iconst (v := 0) hx hb dL_isSum_18 (by decide) ?_
  refine lv_aload_n hx hb dL_isSum_19 rfl (lv_at hl 4 rfl) ?_
  refine lv_iload hx hb dL_isSum_20 (lv_at hl 5 rfl) ?_
  refine lr_il hx hb hK hP 3 0 (e0 := k) rfl rfl (by omega) (by decide) dL_isSum_22 ?_
  refine hh_seti (y := nI j) (hn.symm) ?_
  refine lw_RS (S := Unit) (wl := []) (wr := ([zAJ cJ adW 60 fw, zAJ cJ adU 33 fu, zAJ cJ adG 60 fg, zAI cI adN 6 fn] ++ wB cI cJ cO adB adA lf bs a T)) (wq := fun u => ([zAJ cJ adW 60 fw, zAJ cJ adU 33 fu, zAJ cJ adG 60 fg, zAI cI adN 6 fn] ++ wB cI cJ cO adB adA lf bs a T)) (rest := []) (va_runS (As := [.long (yl_kp (T k)).toInt64, .ref adG, .int (nI k), .int (0 : Int32), .int (nI j)]) (rest := []) ⟨hx, hb, hml, hown, hts⟩ (c_L_isGain l dC dI cI cJ cZ cO adB adA adW adU adG adN lf a bs T fw fu fg fn k j 0 ((yl_kp (T k)).toInt64) _ hlf hk hj (by decide) hg0) (va_cwS 5 hts (gd_S wd_4_12 wd_4_13 wd_1_0 wd_4_14) rfl rfl rfl (by decide +kernel) ⟨Nat.le_of_ble_eq_true rfl, Nat.le_of_ble_eq_true rfl⟩) (lw_S2 (wl := []) gN_c (fun U _ hW => gN_w hW hG) hK (List.Perm.refl _) hP hD) rfl rfl hl.1 rfl (lv_room (Nat.le_of_ble_eq_true rfl)) dL_isSum_23 hcs) hP hD hS hA (fun r u H locs hpost hP hD hS => ?_)
  subst hpost
  have hP : va_P (dC, dI) vwCl ([zAJ cJ adW 60 fw, zAJ cJ adU 33 fu, zAJ cJ adG 60 fg, zAI cI adN 6 fn] ++ wB cI cJ cO adB adA lf bs a T) H := hP
  have hD : va_D A ([zAJ cJ adW 60 fw, zAJ cJ adU 33 fu, zAJ cJ adG 60 fg, zAI cI adN 6 fn] ++ wB cI cJ cO adB adA lf bs a T) := hD
  refine lv_if_eq (tgt := 77) hx hb dL_isSum_26 (by decide) (fun h9 => absurd h9 (by decide)) (fun _ => ?_)
  refine lv_aload_n hx hb dL_isSum_29 rfl (lv_at hl 1 rfl) ?_
  refine lv_iload hx hb dL_isSum_30 (lv_at hl 5 rfl) ?_
  refine lv_iconst (v := 1) hx hb dL_isSum_32 (by decide) ?_
  refine s_gain (k := k) (wh := (1 : Int32)) K hk (by decide) (by decide) ⟨Nat.le_of_ble_eq_true rfl, Nat.le_of_ble_eq_true rfl⟩ hcs (Nat.le_of_ble_eq_true rfl) hP hD hS hA hl.1 dL_isSum_33 (fun H locs hP hD hS => ?_)
  refine hh_seti (y := (yl_ki (T k))) (rfl) ?_
  refine lv_i2l hx hb dL_isSum_36 rfl ?_
  refine lv_aload_n hx hb dL_isSum_37 rfl (lv_at hl 3 rfl) ?_
  refine lv_iload hx hb dL_isSum_38 (lv_at hl 5 rfl) ?_
  refine lv_iconst (v := 1) hx hb dL_isSum_40 (by decide) ?_
  refine lv_aload_n hx hb dL_isSum_41 rfl (lv_at hl 4 rfl) ?_
  refine lv_iload hx hb dL_isSum_42 (lv_at hl 5 rfl) ?_
  refine lr_il hx hb hK hP 3 0 (e0 := k) rfl rfl (by omega) (by decide) dL_isSum_44 ?_
  refine hh_seti (y := nI j) (hn.symm) ?_
  refine lw_RS (S := Unit) (wl := []) (wr := ([zAJ cJ adW 60 fw, zAJ cJ adU 33 fu, zAJ cJ adG 60 fg, zAI cI adN 6 fn] ++ wB cI cJ cO adB adA lf bs a T)) (wq := fun u => ([zAJ cJ adW 60 fw, zAJ cJ adU 33 fu, zAJ cJ adG 60 fg, zAI cI adN 6 fn] ++ wB cI cJ cO adB adA lf bs a T)) (rest := []) (va_runS (As := [.long (yl_ki (T k)).toInt64, .ref adG, .int (nI k), .int (1 : Int32), .int (nI j)]) (rest := []) ⟨hx, hb, hml, hown, hts⟩ (c_L_isGain l dC dI cI cJ cZ cO adB adA adW adU adG adN lf a bs T fw fu fg fn k j 1 ((yl_ki (T k)).toInt64) _ hlf hk hj (by decide) hg1) (va_cwS 5 hts (gd_S wd_4_12 wd_4_13 wd_1_0 wd_4_14) rfl rfl rfl (by decide +kernel) ⟨Nat.le_of_ble_eq_true rfl, Nat.le_of_ble_eq_true rfl⟩) (lw_S2 (wl := []) gN_c (fun U _ hW => gN_w hW hG) hK (List.Perm.refl _) hP hD) rfl rfl hl.1 rfl (lv_room (Nat.le_of_ble_eq_true rfl)) dL_isSum_45 hcs) hP hD hS hA (fun r u H locs hpost hP hD hS => ?_)
  subst hpost
  have hP : va_P (dC, dI) vwCl ([zAJ cJ adW 60 fw, zAJ cJ adU 33 fu, zAJ cJ adG 60 fg, zAI cI adN 6 fn] ++ wB cI cJ cO adB adA lf bs a T) H := hP
  have hD : va_D A ([zAJ cJ adW 60 fw, zAJ cJ adU 33 fu, zAJ cJ adG 60 fg, zAI cI adN 6 fn] ++ wB cI cJ cO adB adA lf bs a T) := hD
  refine lv_if_eq (tgt := 77) hx hb dL_isSum_48 (by decide) (fun h9 => absurd h9 (by decide)) (fun _ => ?_)
  refine lv_aload_n hx hb dL_isSum_51 rfl (lv_at hl 1 rfl) ?_
  refine lv_iload hx hb dL_isSum_52 (lv_at hl 5 rfl) ?_
  refine lv_iconst (v := 2) hx hb dL_isSum_54 (by decide) ?_
  refine s_gain (k := k) (wh := (2 : Int32)) K hk (by decide) (by decide) ⟨Nat.le_of_ble_eq_true rfl, Nat.le_of_ble_eq_true rfl⟩ hcs (Nat.le_of_ble_eq_true rfl) hP hD hS hA hl.1 dL_isSum_55 (fun H locs hP hD hS => ?_)
  refine hh_seti (y := (yl_kd (T k))) (rfl) ?_
  refine lv_i2l hx hb dL_isSum_58 rfl ?_
  refine lv_aload_n hx hb dL_isSum_59 rfl (lv_at hl 3 rfl) ?_
  refine lv_iload hx hb dL_isSum_60 (lv_at hl 5 rfl) ?_
  refine lv_iconst (v := 2) hx hb dL_isSum_62 (by decide) ?_
  refine lv_aload_n hx hb dL_isSum_63 rfl (lv_at hl 4 rfl) ?_
  refine lv_iload hx hb dL_isSum_64 (lv_at hl 5 rfl) ?_
  refine lr_il hx hb hK hP 3 0 (e0 := k) rfl rfl (by omega) (by decide) dL_isSum_66 ?_
  refine hh_seti (y := nI j) (hn.symm) ?_
  refine lw_RS (S := Unit) (wl := []) (wr := ([zAJ cJ adW 60 fw, zAJ cJ adU 33 fu, zAJ cJ adG 60 fg, zAI cI adN 6 fn] ++ wB cI cJ cO adB adA lf bs a T)) (wq := fun u => ([zAJ cJ adW 60 fw, zAJ cJ adU 33 fu, zAJ cJ adG 60 fg, zAI cI adN 6 fn] ++ wB cI cJ cO adB adA lf bs a T)) (rest := []) (va_runS (As := [.long (yl_kd (T k)).toInt64, .ref adG, .int (nI k), .int (2 : Int32), .int (nI j)]) (rest := []) ⟨hx, hb, hml, hown, hts⟩ (c_L_isGain l dC dI cI cJ cZ cO adB adA adW adU adG adN lf a bs T fw fu fg fn k j 2 ((yl_kd (T k)).toInt64) _ hlf hk hj (by decide) hg2) (va_cwS 5 hts (gd_S wd_4_12 wd_4_13 wd_1_0 wd_4_14) rfl rfl rfl (by decide +kernel) ⟨Nat.le_of_ble_eq_true rfl, Nat.le_of_ble_eq_true rfl⟩) (lw_S2 (wl := []) gN_c (fun U _ hW => gN_w hW hG) hK (List.Perm.refl _) hP hD) rfl rfl hl.1 rfl (lv_room (Nat.le_of_ble_eq_true rfl)) dL_isSum_67 hcs) hP hD hS hA (fun r u H locs hpost hP hD hS => ?_)
  subst hpost
  have hP : va_P (dC, dI) vwCl ([zAJ cJ adW 60 fw, zAJ cJ adU 33 fu, zAJ cJ adG 60 fg, zAI cI adN 6 fn] ++ wB cI cJ cO adB adA lf bs a T) H := hP
  have hD : va_D A ([zAJ cJ adW 60 fw, zAJ cJ adU 33 fu, zAJ cJ adG 60 fg, zAI cI adN 6 fn] ++ wB cI cJ cO adB adA lf bs a T) := hD
  refine lv_if_eq (tgt := 77) hx hb dL_isSum_70 (by decide) (fun h9 => absurd h9 (by decide)) (fun _ => ?_)
  refine lv_iconst (v := 1) hx hb dL_isSum_73 (by decide) ?_
  refine lv_goto (tgt := 78) hx hb dL_isSum_74 (by decide) ?_
  refine lv_istore (lv' := [(11, .int (1 : Int32)), (10, .int (nI (20 * k))), (0, .ref adB), (1, .ref adW), (2, .ref adG), (3, .ref adN), (4, .int (nI k)), (5, .long er), (7, .long ou), (9, .int fr)]) hx hb dL_isSum_78 hl (by decide) rfl (fun ls hl => ?_)
  refine lv_aload_n hx hb dL_isSum_80 rfl (lv_at hl 3 rfl) ?_
  refine lv_iload hx hb dL_isSum_81 (lv_at hl 1 rfl) ?_
  refine lv_bipush (v := 15) hx hb dL_isSum_83 (by decide) ?_
  refine lv_iadd hx hb dL_isSum_85 ?_
  refine hh_seti (y := (nI (20 * k + 15))) (lwAdd (a := 20 * k) (b := 15) (by omega)) ?_
  refine lr_ll hx hb hK hP 0 1 (e0 := 20 * k + 15) rfl rfl (by omega) (by decide) dL_isSum_86 ?_
  refine lv_lconst (v := 1) hx hb dL_isSum_87 (by decide) ?_
  refine hh_cne (tgt := 159) hx hb dL_isSum_88 dL_isSum_89 (by decide) (fun h15 => ?_) (fun h15 => ?_)
  · skip
    refine lv_aload_n hx hb dL_isSum_159 rfl (lv_at hl 3 rfl) ?_
    refine lv_iload hx hb dL_isSum_160 (lv_at hl 1 rfl) ?_
    refine lv_bipush (v := 14) hx hb dL_isSum_162 (by decide) ?_
    refine lv_iadd hx hb dL_isSum_164 ?_
    refine hh_seti (y := (nI (20 * k + 14))) (lwAdd (a := 20 * k) (b := 14) (by omega)) ?_
    refine lv_iload hx hb dL_isSum_165 (lv_at hl 9 rfl) ?_
    refine lv_if_eq (tgt := 187) hx hb dL_isSum_167 (by decide) (fun hfr => ?_) (fun hfr => ?_)
    · skip
      refine lv_lconst (v := 0) hx hb dL_isSum_187 (by decide) ?_
      refine lr_ls hx hb hK hP hD hS 0 1 (e0 := 20 * k + 14) rfl rfl (by omega) (by decide) dL_isSum_188 (w1 := ([zAJ cJ adW 60 (vp_updL fw (20 * k + 14) (0 : Int64)), zAJ cJ adU 33 fu, zAJ cJ adG 60 fg, zAI cI adN 6 fn] ++ wB cI cJ cO adB adA lf bs a T)) rfl (fun H locs hP hD hS => ?_)
      refine lv_iload hx hb dL_isSum_189 (lv_at hl 0 rfl) ?_
      refine lv_if_eq (tgt := 222) hx hb dL_isSum_191 (by decide) (fun h9 => absurd h9 (by decide)) (fun _ => ?_)
      refine lv_aload_n hx hb dL_isSum_194 rfl (lv_at hl 3 rfl) ?_
      refine lv_iload hx hb dL_isSum_195 (lv_at hl 1 rfl) ?_
      refine lv_bipush (v := 14) hx hb dL_isSum_197 (by decide) ?_
      refine lv_iadd hx hb dL_isSum_199 ?_
      refine hh_seti (y := (nI (20 * k + 14))) (lwAdd (a := 20 * k) (b := 14) (by omega)) ?_
      refine lr_ll hx hb hK hP 0 1 (e0 := 20 * k + 14) rfl rfl (by omega) (by decide) dL_isSum_200 ?_
      refine hh_setl (y := (0 : Int64)) ((ul_eq _ _ _).symm) ?_
      refine lv_lconst (v := 0) hx hb dL_isSum_201 (by decide) ?_
      refine hh_ceq (tgt := 218) hx hb dL_isSum_202 dL_isSum_203 (by decide) (fun _ => ?_) (fun h9 => absurd h9 (by decide))
      refine lv_iconst (v := 1) hx hb dL_isSum_218 (by decide) ?_
      refine lv_goto (tgt := 223) hx hb dL_isSum_219 (by decide) ?_
      exact hh_retS (w := fun (u : Nat → Int64) => ([zAJ cJ adW 60 u, zAJ cJ adU 33 fu, zAJ cJ adG 60 fg, zAI cI adN 6 fn] ++ wB cI cJ cO adB adA lf bs a T)) ((vp_updL fw (20 * k + 14) (0 : Int64))) hQ (⟨rfl, fun i hi => (ul_ne _ _ hi), (ul_eq _ _ _).trans (if_pos hfr).symm⟩) (rfl) hx hb hr hlocks hP hK hD hS dL_isSum_223
    · skip
      refine lv_aload_n hx hb dL_isSum_170 rfl (lv_at hl 5 rfl) ?_
      refine lv_iload hx hb dL_isSum_171 (lv_at hl 6 rfl) ?_
      refine lr_il hx hb hK hP 3 0 (e0 := k) rfl rfl (by omega) (by decide) dL_isSum_173 ?_
      refine lv_if_ne (tgt := 187) hx hb dL_isSum_174 (by decide) (fun hn0 => ?_) (fun hn0 => ?_)
      · skip
        refine lv_lconst (v := 0) hx hb dL_isSum_187 (by decide) ?_
        refine lr_ls hx hb hK hP hD hS 0 1 (e0 := 20 * k + 14) rfl rfl (by omega) (by decide) dL_isSum_188 (w1 := ([zAJ cJ adW 60 (vp_updL fw (20 * k + 14) (0 : Int64)), zAJ cJ adU 33 fu, zAJ cJ adG 60 fg, zAI cI adN 6 fn] ++ wB cI cJ cO adB adA lf bs a T)) rfl (fun H locs hP hD hS => ?_)
        refine lv_iload hx hb dL_isSum_189 (lv_at hl 0 rfl) ?_
        refine lv_if_eq (tgt := 222) hx hb dL_isSum_191 (by decide) (fun h9 => absurd h9 (by decide)) (fun _ => ?_)
        refine lv_aload_n hx hb dL_isSum_194 rfl (lv_at hl 3 rfl) ?_
        refine lv_iload hx hb dL_isSum_195 (lv_at hl 1 rfl) ?_
        refine lv_bipush (v := 14) hx hb dL_isSum_197 (by decide) ?_
        refine lv_iadd hx hb dL_isSum_199 ?_
        refine hh_seti (y := (nI (20 * k + 14))) (lwAdd (a := 20 * k) (b := 14) (by omega)) ?_
        refine lr_ll hx hb hK hP 0 1 (e0 := 20 * k + 14) rfl rfl (by omega) (by decide) dL_isSum_200 ?_
        refine hh_setl (y := (0 : Int64)) ((ul_eq _ _ _).symm) ?_
        refine lv_lconst (v := 0) hx hb dL_isSum_201 (by decide) ?_
        refine hh_ceq (tgt := 218) hx hb dL_isSum_202 dL_isSum_203 (by decide) (fun _ => ?_) (fun h9 => absurd h9 (by decide))
        refine lv_iconst (v := 1) hx hb dL_isSum_218 (by decide) ?_
        refine lv_goto (tgt := 223) hx hb dL_isSum_219 (by decide) ?_
        exact hh_retS (w := fun (u : Nat → Int64) => ([zAJ cJ adW 60 u, zAJ cJ adU 33 fu, zAJ cJ adG 60 fg, zAI cI adN 6 fn] ++ wB cI cJ cO adB adA lf bs a T)) ((vp_updL fw (20 * k + 14) (0 : Int64))) hQ (⟨rfl, fun i hi => (ul_ne _ _ hi), (ul_eq _ _ _).trans ((if_neg hfr).trans (if_neg hn0)).symm⟩) (rfl) hx hb hr hlocks hP hK hD hS dL_isSum_223
      · skip
        refine lv_aload_n hx hb dL_isSum_177 rfl (lv_at hl 3 rfl) ?_
        refine lv_iload hx hb dL_isSum_178 (lv_at hl 1 rfl) ?_
        refine lv_bipush (v := 14) hx hb dL_isSum_180 (by decide) ?_
        refine lv_iadd hx hb dL_isSum_182 ?_
        refine hh_seti (y := (nI (20 * k + 14))) (lwAdd (a := 20 * k) (b := 14) (by omega)) ?_
        refine lr_ll hx hb hK hP 0 1 (e0 := 20 * k + 14) rfl rfl (by omega) (by decide) dL_isSum_183 ?_
        refine lv_goto (tgt := 188) hx hb dL_isSum_184 (by decide) ?_
        refine lr_ls hx hb hK hP hD hS 0 1 (e0 := 20 * k + 14) rfl rfl (by omega) (by decide) dL_isSum_188 (w1 := ([zAJ cJ adW 60 (vp_updL fw (20 * k + 14) (fw (20 * k + 14))), zAJ cJ adU 33 fu, zAJ cJ adG 60 fg, zAI cI adN 6 fn] ++ wB cI cJ cO adB adA lf bs a T)) rfl (fun H locs hP hD hS => ?_)
        refine lv_iload hx hb dL_isSum_189 (lv_at hl 0 rfl) ?_
        refine lv_if_eq (tgt := 222) hx hb dL_isSum_191 (by decide) (fun h9 => absurd h9 (by decide)) (fun _ => ?_)
        refine lv_aload_n hx hb dL_isSum_194 rfl (lv_at hl 3 rfl) ?_
        refine lv_iload hx hb dL_isSum_195 (lv_at hl 1 rfl) ?_
        refine lv_bipush (v := 14) hx hb dL_isSum_197 (by decide) ?_
        refine lv_iadd hx hb dL_isSum_199 ?_
        refine hh_seti (y := (nI (20 * k + 14))) (lwAdd (a := 20 * k) (b := 14) (by omega)) ?_
        refine lr_ll hx hb hK hP 0 1 (e0 := 20 * k + 14) rfl rfl (by omega) (by decide) dL_isSum_200 ?_
        refine hh_setl (y := (fw (20 * k + 14))) ((ul_eq _ _ _).symm) ?_
        refine lv_lconst (v := 0) hx hb dL_isSum_201 (by decide) ?_
        refine hh_ceq (tgt := 218) hx hb dL_isSum_202 dL_isSum_203 (by decide) (fun h14 => ?_) (fun h14 => ?_)
        · skip
          refine lv_iconst (v := 1) hx hb dL_isSum_218 (by decide) ?_
          refine lv_goto (tgt := 223) hx hb dL_isSum_219 (by decide) ?_
          exact hh_retS (w := fun (u : Nat → Int64) => ([zAJ cJ adW 60 u, zAJ cJ adU 33 fu, zAJ cJ adG 60 fg, zAI cI adN 6 fn] ++ wB cI cJ cO adB adA lf bs a T)) ((vp_updL fw (20 * k + 14) (fw (20 * k + 14)))) hQ (⟨rfl, fun i hi => (ul_ne _ _ hi), (ul_eq _ _ _).trans ((if_neg hfr).trans ((if_pos hn0).trans (if_neg h15))).symm⟩) (rfl) hx hb hr hlocks hP hK hD hS dL_isSum_223
        · skip
          refine lv_aload_n hx hb dL_isSum_206 rfl (lv_at hl 2 rfl) ?_
          refine lv_iload hx hb dL_isSum_207 (lv_at hl 6 rfl) ?_
          refine s_outputByIncrements (k := k)  K hk  ⟨Nat.le_of_ble_eq_true rfl, Nat.le_of_ble_eq_true rfl⟩ hcs (Nat.le_of_ble_eq_true rfl) hP hD hS hA hl.1 dL_isSum_209 (fun H locs hP hD hS => ?_)
          refine lv_lload hx hb dL_isSum_212 (lv_at hl 8 rfl) ?_
          refine hh_cne (tgt := 222) hx hb dL_isSum_214 dL_isSum_215 (by decide) (fun h9 => absurd (qB hfr hn0 (Or.inr h14)) h9) (fun _ => ?_)
          refine lv_iconst (v := 1) hx hb dL_isSum_218 (by decide) ?_
          refine lv_goto (tgt := 223) hx hb dL_isSum_219 (by decide) ?_
          exact hh_retS (w := fun (u : Nat → Int64) => ([zAJ cJ adW 60 u, zAJ cJ adU 33 fu, zAJ cJ adG 60 fg, zAI cI adN 6 fn] ++ wB cI cJ cO adB adA lf bs a T)) ((vp_updL fw (20 * k + 14) (fw (20 * k + 14)))) hQ (⟨rfl, fun i hi => (ul_ne _ _ hi), (ul_eq _ _ _).trans ((if_neg hfr).trans ((if_pos hn0).trans (if_neg h15))).symm⟩) (rfl) hx hb hr hlocks hP hK hD hS dL_isSum_223
  · skip
    refine lv_iload hx hb dL_isSum_92 (lv_at hl 0 rfl) ?_
    refine lv_if_eq (tgt := 148) hx hb dL_isSum_94 (by decide) (fun h9 => absurd h9 (by decide)) (fun _ => ?_)
    refine lv_lload hx hb dL_isSum_97 (lv_at hl 8 rfl) ?_
    refine lv_aload_n hx hb dL_isSum_99 rfl (lv_at hl 3 rfl) ?_
    refine lv_iload hx hb dL_isSum_100 (lv_at hl 1 rfl) ?_
    refine lv_bipush (v := 16) hx hb dL_isSum_102 (by decide) ?_
    refine lv_iadd hx hb dL_isSum_104 ?_
    refine hh_seti (y := (nI (20 * k + 16))) (lwAdd (a := 20 * k) (b := 16) (by omega)) ?_
    refine lr_ll hx hb hK hP 0 1 (e0 := 20 * k + 16) rfl rfl (by omega) (by decide) dL_isSum_105 ?_
    refine lv_aload_n hx hb dL_isSum_106 rfl (lv_at hl 2 rfl) ?_
    refine lv_iload hx hb dL_isSum_107 (lv_at hl 6 rfl) ?_
    refine lv_iconst (v := 1) hx hb dL_isSum_109 (by decide) ?_
    refine s_gain (k := k) (wh := (1 : Int32)) K hk (by decide) (by decide) ⟨Nat.le_of_ble_eq_true rfl, Nat.le_of_ble_eq_true rfl⟩ hcs (Nat.le_of_ble_eq_true rfl) hP hD hS hA hl.1 dL_isSum_110 (fun H locs hP hD hS => ?_)
    refine hh_seti (y := (yl_ki (T k))) (rfl) ?_
    refine lv_i2l hx hb dL_isSum_113 rfl ?_
    refine lv_lload hx hb dL_isSum_114 (lv_at hl 7 rfl) ?_
    refine lv_lmul hx hb dL_isSum_116 ?_
    refine lv_ldc2 (v := 1000) hx hb hown (hts _ wd_3_41) dL_isSum_117 ?_
    refine lw_El (rv := (f_L_floor_r (((yl_ki (T k)).toInt64) * er) (1000 : Int64))) (rest := [.long (fw (20 * k + 16)), .long ou]) (va_runS (As := [.long (((yl_ki (T k)).toInt64) * er), .long (1000 : Int64)]) (rest := [.long (fw (20 * k + 16)), .long ou]) ⟨hx, hb, hml, hown, hts⟩ (c_L_floor l dC dI cI cJ cZ cO (((yl_ki (T k)).toInt64) * er) (1000 : Int64) _ (by decide)) (va_cwS 2 hts (gd_S wd_4_16 wd_4_17 wd_1_0 wd_4_18) rfl rfl rfl (by decide +kernel) ⟨Nat.le_of_ble_eq_true rfl, Nat.le_of_ble_eq_true rfl⟩) (lw_S0 gN_c (fun U _ hW => gN_w hW hG) hK) rfl rfl hl.1 rfl (lv_room (Nat.le_of_ble_eq_true rfl)) dL_isSum_120 hcs) hP hD hS hA (fun H locs hP hD hS => ?_)
    refine lv_ladd hx hb dL_isSum_123 ?_
    refine lv_aload_n hx hb dL_isSum_124 rfl (lv_at hl 3 rfl) ?_
    refine lv_iload hx hb dL_isSum_125 (lv_at hl 1 rfl) ?_
    refine lv_iconst (v := 5) hx hb dL_isSum_127 (by decide) ?_
    refine lv_iadd hx hb dL_isSum_128 ?_
    refine hh_seti (y := (nI (20 * k + 5))) (lwAdd (a := 20 * k) (b := 5) (by omega)) ?_
    refine lr_ll hx hb hK hP 0 1 (e0 := 20 * k + 5) rfl rfl (by omega) (by decide) dL_isSum_129 ?_
    refine lv_aload_n hx hb dL_isSum_130 rfl (lv_at hl 3 rfl) ?_
    refine lv_iload hx hb dL_isSum_131 (lv_at hl 1 rfl) ?_
    refine lv_bipush (v := 6) hx hb dL_isSum_133 (by decide) ?_
    refine lv_iadd hx hb dL_isSum_135 ?_
    refine hh_seti (y := (nI (20 * k + 6))) (lwAdd (a := 20 * k) (b := 6) (by omega)) ?_
    refine lr_ll hx hb hK hP 0 1 (e0 := 20 * k + 6) rfl rfl (by omega) (by decide) dL_isSum_136 ?_
    refine lw_El (rv := (f_L_within_j1_1 ((fw (20 * k + 16)) + (f_L_floor_r (((yl_ki (T k)).toInt64) * er) (1000 : Int64))) (fw (20 * k + 5)) (fw (20 * k + 6)))) (rest := [.long ou]) (va_runS (As := [.long ((fw (20 * k + 16)) + (f_L_floor_r (((yl_ki (T k)).toInt64) * er) (1000 : Int64))), .long (fw (20 * k + 5)), .long (fw (20 * k + 6))]) (rest := [.long ou]) ⟨hx, hb, hml, hown, hts⟩ (c_L_within l dC dI cI cJ cZ cO ((fw (20 * k + 16)) + (f_L_floor_r (((yl_ki (T k)).toInt64) * er) (1000 : Int64))) (fw (20 * k + 5)) (fw (20 * k + 6)) _) (va_cwS 3 hts (gd_S wd_3_183 wd_3_184 wd_1_0 wd_3_185) rfl rfl rfl (by decide +kernel) ⟨Nat.le_of_ble_eq_true rfl, Nat.le_of_ble_eq_true rfl⟩) (lw_S0 gN_c (fun U _ hW => gN_w hW hG) hK) rfl rfl hl.1 rfl (lv_room (Nat.le_of_ble_eq_true rfl)) dL_isSum_137 hcs) hP hD hS hA (fun H locs hP hD hS => ?_)
    refine hh_cne (tgt := 148) hx hb dL_isSum_140 dL_isSum_141 (by decide) (fun h9 => absurd (qA h15) h9) (fun _ => ?_)
    refine lv_iconst (v := 1) hx hb dL_isSum_144 (by decide) ?_
    refine lv_goto (tgt := 149) hx hb dL_isSum_145 (by decide) ?_
    refine lv_istore (lv' := [(11, .int (1 : Int32)), (10, .int (nI (20 * k))), (0, .ref adB), (1, .ref adW), (2, .ref adG), (3, .ref adN), (4, .int (nI k)), (5, .long er), (7, .long ou), (9, .int fr)]) hx hb dL_isSum_149 hl (by decide) rfl (fun ls hl => ?_)
    refine lv_aload_n hx hb dL_isSum_151 rfl (lv_at hl 3 rfl) ?_
    refine lv_iload hx hb dL_isSum_152 (lv_at hl 1 rfl) ?_
    refine lv_bipush (v := 14) hx hb dL_isSum_154 (by decide) ?_
    refine lv_iadd hx hb dL_isSum_156 ?_
    refine hh_seti (y := (nI (20 * k + 14))) (lwAdd (a := 20 * k) (b := 14) (by omega)) ?_
    refine lv_lconst (v := 1) hx hb dL_isSum_157 (by decide) ?_
    refine lr_ls hx hb hK hP hD hS 0 1 (e0 := 20 * k + 14) rfl rfl (by omega) (by decide) dL_isSum_158 (w1 := ([zAJ cJ adW 60 (vp_updL fw (20 * k + 14) (1 : Int64)), zAJ cJ adU 33 fu, zAJ cJ adG 60 fg, zAI cI adN 6 fn] ++ wB cI cJ cO adB adA lf bs a T)) rfl (fun H locs hP hD hS => ?_)
    refine lv_aload_n hx hb dL_isSum_159 rfl (lv_at hl 3 rfl) ?_
    refine lv_iload hx hb dL_isSum_160 (lv_at hl 1 rfl) ?_
    refine lv_bipush (v := 14) hx hb dL_isSum_162 (by decide) ?_
    refine lv_iadd hx hb dL_isSum_164 ?_
    refine hh_seti (y := (nI (20 * k + 14))) (lwAdd (a := 20 * k) (b := 14) (by omega)) ?_
    refine lv_iload hx hb dL_isSum_165 (lv_at hl 9 rfl) ?_
    refine lv_if_eq (tgt := 187) hx hb dL_isSum_167 (by decide) (fun hfr => ?_) (fun hfr => ?_)
    · skip
      refine lv_lconst (v := 0) hx hb dL_isSum_187 (by decide) ?_
      refine lr_ls hx hb hK hP hD hS 0 1 (e0 := 20 * k + 14) rfl rfl (by omega) (by decide) dL_isSum_188 (w1 := ([zAJ cJ adW 60 (vp_updL (vp_updL fw (20 * k + 14) (1 : Int64)) (20 * k + 14) (0 : Int64)), zAJ cJ adU 33 fu, zAJ cJ adG 60 fg, zAI cI adN 6 fn] ++ wB cI cJ cO adB adA lf bs a T)) rfl (fun H locs hP hD hS => ?_)
      refine lv_iload hx hb dL_isSum_189 (lv_at hl 0 rfl) ?_
      refine lv_if_eq (tgt := 222) hx hb dL_isSum_191 (by decide) (fun h9 => absurd h9 (by decide)) (fun _ => ?_)
      refine lv_aload_n hx hb dL_isSum_194 rfl (lv_at hl 3 rfl) ?_
      refine lv_iload hx hb dL_isSum_195 (lv_at hl 1 rfl) ?_
      refine lv_bipush (v := 14) hx hb dL_isSum_197 (by decide) ?_
      refine lv_iadd hx hb dL_isSum_199 ?_
      refine hh_seti (y := (nI (20 * k + 14))) (lwAdd (a := 20 * k) (b := 14) (by omega)) ?_
      refine lr_ll hx hb hK hP 0 1 (e0 := 20 * k + 14) rfl rfl (by omega) (by decide) dL_isSum_200 ?_
      refine hh_setl (y := (0 : Int64)) ((ul_eq _ _ _).symm) ?_
      refine lv_lconst (v := 0) hx hb dL_isSum_201 (by decide) ?_
      refine hh_ceq (tgt := 218) hx hb dL_isSum_202 dL_isSum_203 (by decide) (fun _ => ?_) (fun h9 => absurd h9 (by decide))
      refine lv_iconst (v := 1) hx hb dL_isSum_218 (by decide) ?_
      refine lv_goto (tgt := 223) hx hb dL_isSum_219 (by decide) ?_
      exact hh_retS (w := fun (u : Nat → Int64) => ([zAJ cJ adW 60 u, zAJ cJ adU 33 fu, zAJ cJ adG 60 fg, zAI cI adN 6 fn] ++ wB cI cJ cO adB adA lf bs a T)) ((vp_updL (vp_updL fw (20 * k + 14) (1 : Int64)) (20 * k + 14) (0 : Int64))) hQ (⟨rfl, fun i hi => ((ul_ne _ _ hi).trans (ul_ne _ _ hi)), (ul_eq _ _ _).trans (if_pos hfr).symm⟩) (rfl) hx hb hr hlocks hP hK hD hS dL_isSum_223
    · skip
      refine lv_aload_n hx hb dL_isSum_170 rfl (lv_at hl 5 rfl) ?_
      refine lv_iload hx hb dL_isSum_171 (lv_at hl 6 rfl) ?_
      refine lr_il hx hb hK hP 3 0 (e0 := k) rfl rfl (by omega) (by decide) dL_isSum_173 ?_
      refine lv_if_ne (tgt := 187) hx hb dL_isSum_174 (by decide) (fun hn0 => ?_) (fun hn0 => ?_)
      · skip
        refine lv_lconst (v := 0) hx hb dL_isSum_187 (by decide) ?_
        refine lr_ls hx hb hK hP hD hS 0 1 (e0 := 20 * k + 14) rfl rfl (by omega) (by decide) dL_isSum_188 (w1 := ([zAJ cJ adW 60 (vp_updL (vp_updL fw (20 * k + 14) (1 : Int64)) (20 * k + 14) (0 : Int64)), zAJ cJ adU 33 fu, zAJ cJ adG 60 fg, zAI cI adN 6 fn] ++ wB cI cJ cO adB adA lf bs a T)) rfl (fun H locs hP hD hS => ?_)
        refine lv_iload hx hb dL_isSum_189 (lv_at hl 0 rfl) ?_
        refine lv_if_eq (tgt := 222) hx hb dL_isSum_191 (by decide) (fun h9 => absurd h9 (by decide)) (fun _ => ?_)
        refine lv_aload_n hx hb dL_isSum_194 rfl (lv_at hl 3 rfl) ?_
        refine lv_iload hx hb dL_isSum_195 (lv_at hl 1 rfl) ?_
        refine lv_bipush (v := 14) hx hb dL_isSum_197 (by decide) ?_
        refine lv_iadd hx hb dL_isSum_199 ?_
        refine hh_seti (y := (nI (20 * k + 14))) (lwAdd (a := 20 * k) (b := 14) (by omega)) ?_
        refine lr_ll hx hb hK hP 0 1 (e0 := 20 * k + 14) rfl rfl (by omega) (by decide) dL_isSum_200 ?_
        refine hh_setl (y := (0 : Int64)) ((ul_eq _ _ _).symm) ?_
        refine lv_lconst (v := 0) hx hb dL_isSum_201 (by decide) ?_
        refine hh_ceq (tgt := 218) hx hb dL_isSum_202 dL_isSum_203 (by decide) (fun _ => ?_) (fun h9 => absurd h9 (by decide))
        refine lv_iconst (v := 1) hx hb dL_isSum_218 (by decide) ?_
        refine lv_goto (tgt := 223) hx hb dL_isSum_219 (by decide) ?_
        exact hh_retS (w := fun (u : Nat → Int64) => ([zAJ cJ adW 60 u, zAJ cJ adU 33 fu, zAJ cJ adG 60 fg, zAI cI adN 6 fn] ++ wB cI cJ cO adB adA lf bs a T)) ((vp_updL (vp_updL fw (20 * k + 14) (1 : Int64)) (20 * k + 14) (0 : Int64))) hQ (⟨rfl, fun i hi => ((ul_ne _ _ hi).trans (ul_ne _ _ hi)), (ul_eq _ _ _).trans ((if_neg hfr).trans (if_neg hn0)).symm⟩) (rfl) hx hb hr hlocks hP hK hD hS dL_isSum_223
      · skip
        refine lv_aload_n hx hb dL_isSum_177 rfl (lv_at hl 3 rfl) ?_
        refine lv_iload hx hb dL_isSum_178 (lv_at hl 1 rfl) ?_
        refine lv_bipush (v := 14) hx hb dL_isSum_180 (by decide) ?_
        refine lv_iadd hx hb dL_isSum_182 ?_
        refine hh_seti (y := (nI (20 * k + 14))) (lwAdd (a := 20 * k) (b := 14) (by omega)) ?_
        refine lr_ll hx hb hK hP 0 1 (e0 := 20 * k + 14) rfl rfl (by omega) (by decide) dL_isSum_183 ?_
        refine hh_setl (y := (1 : Int64)) ((ul_eq _ _ _).symm) ?_
        refine lv_goto (tgt := 188) hx hb dL_isSum_184 (by decide) ?_
        refine lr_ls hx hb hK hP hD hS 0 1 (e0 := 20 * k + 14) rfl rfl (by omega) (by decide) dL_isSum_188 (w1 := ([zAJ cJ adW 60 (vp_updL (vp_updL fw (20 * k + 14) (1 : Int64)) (20 * k + 14) (1 : Int64)), zAJ cJ adU 33 fu, zAJ cJ adG 60 fg, zAI cI adN 6 fn] ++ wB cI cJ cO adB adA lf bs a T)) rfl (fun H locs hP hD hS => ?_)
        refine lv_iload hx hb dL_isSum_189 (lv_at hl 0 rfl) ?_
        refine lv_if_eq (tgt := 222) hx hb dL_isSum_191 (by decide) (fun h9 => absurd h9 (by decide)) (fun _ => ?_)
        refine lv_aload_n hx hb dL_isSum_194 rfl (lv_at hl 3 rfl) ?_
        refine lv_iload hx hb dL_isSum_195 (lv_at hl 1 rfl) ?_
        refine lv_bipush (v := 14) hx hb dL_isSum_197 (by decide) ?_
        refine lv_iadd hx hb dL_isSum_199 ?_
        refine hh_seti (y := (nI (20 * k + 14))) (lwAdd (a := 20 * k) (b := 14) (by omega)) ?_
        refine lr_ll hx hb hK hP 0 1 (e0 := 20 * k + 14) rfl rfl (by omega) (by decide) dL_isSum_200 ?_
        refine hh_setl (y := (1 : Int64)) ((ul_eq _ _ _).symm) ?_
        refine lv_lconst (v := 0) hx hb dL_isSum_201 (by decide) ?_
        refine hh_ceq (tgt := 218) hx hb dL_isSum_202 dL_isSum_203 (by decide) (fun h9 => absurd h9 (by decide)) (fun _ => ?_)
        refine lv_aload_n hx hb dL_isSum_206 rfl (lv_at hl 2 rfl) ?_
        refine lv_iload hx hb dL_isSum_207 (lv_at hl 6 rfl) ?_
        refine s_outputByIncrements (k := k)  K hk  ⟨Nat.le_of_ble_eq_true rfl, Nat.le_of_ble_eq_true rfl⟩ hcs (Nat.le_of_ble_eq_true rfl) hP hD hS hA hl.1 dL_isSum_209 (fun H locs hP hD hS => ?_)
        refine lv_lload hx hb dL_isSum_212 (lv_at hl 8 rfl) ?_
        refine hh_cne (tgt := 222) hx hb dL_isSum_214 dL_isSum_215 (by decide) (fun h9 => absurd (qB hfr hn0 (Or.inl h15)) h9) (fun _ => ?_)
        refine lv_iconst (v := 1) hx hb dL_isSum_218 (by decide) ?_
        refine lv_goto (tgt := 223) hx hb dL_isSum_219 (by decide) ?_
        exact hh_retS (w := fun (u : Nat → Int64) => ([zAJ cJ adW 60 u, zAJ cJ adU 33 fu, zAJ cJ adG 60 fg, zAI cI adN 6 fn] ++ wB cI cJ cO adB adA lf bs a T)) ((vp_updL (vp_updL fw (20 * k + 14) (1 : Int64)) (20 * k + 14) (1 : Int64))) hQ (⟨rfl, fun i hi => ((ul_ne _ _ hi).trans (ul_ne _ _ hi)), (ul_eq _ _ _).trans ((if_neg hfr).trans ((if_pos hn0).trans (if_pos h15))).symm⟩) (rfl) hx hb hr hlocks hP hK hD hS dL_isSum_223
