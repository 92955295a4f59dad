set_option maxHeartbeats 4000000 in
set_option maxRecDepth 100000 in
theorem c_L_modes_0 (l : Launch) (dC : Nat → ClassId) (dI : Nat → Nat → Nat) (cI cJ cZ cO : ClassId) (adB adA adW adU adG adN : Nat) (lf : Nat → Option Nat) (a : Nat → AT) (bs : Int32) (T : Nat → LT) (fw fu fg : Nat → Int64) (fn : Nat → Int32) (k : Nat) (sz : Nat) (hlf : ∀ j : Nat, j < 3 → lf (nI j).toNatClampNeg = some (ya_adL (a j))) (hk : k < 3) (hR : RP k (T k) fw fu fg fn) (h15 : fw (20 * k + 15) = 0) : Met l yL_modes (Cond.code yL_modes cL_modes 8 (some .boolean) :: wAll) ({ frames := 4, cells := 0, slots := 0, locals := 87 }) (va_Pc [.ref adB, .ref adW, .ref adN, .int (nI k), .int (0 : Int32)] (gP (dC, dI) ([zAJ cJ adW 60 fw, zAJ cJ adU 33 fu, zAJ cJ adG 60 fg, zAI cI adN 6 fn] ++ wB cI cJ cO adB adA lf bs a T) (tyG cI cJ cZ cO) sz gN)) (va_Qi (fun r (u : (Nat → Int64) × (Nat → LT)) => r = 1 ∧ SPost k T fw fu fg fn u.1 fg fn u.2) (fun u t => gB (dC, dI) (va_A ([zAJ cJ adW 60 fw, zAJ cJ adU 33 fu, zAJ cJ adG 60 fg, zAI cI adN 6 fn] ++ wB cI cJ cO adB adA lf bs a T) sz) ([zAJ cJ adW 60 u.1, zAJ cJ adU 33 fu, zAJ cJ adG 60 fg, zAI cI adN 6 fn] ++ wB cI cJ cO adB adA lf bs a u.2) (tyG cI cJ cZ cO) t) (va_A ([zAJ cJ adW 60 fw, zAJ cJ adU 33 fu, zAJ cJ adG 60 fg, zAI cI adN 6 fn] ++ wB cI cJ cO adB adA lf bs a T) sz)) 0 0 (va_A ([zAJ cJ adW 60 fw, zAJ cJ adU 33 fu, zAJ cJ adG 60 fg, zAI cI adN 6 fn] ++ wB cI cJ cO adB adA lf bs a T) sz) := by
  refine Met.ofW (cc := cL_modes) (maxL := 8) (ret := (some .boolean)) (by decide) rfl ?_
  intro p e s m args below meth c s₁ B hml hv
  obtain ⟨rfl, hsz, hP, hK, hD0, hG⟩ := hv
  have hx := B.exec
  have hb := B.bytes
  have hr := B.returns
  have hts := ht_of B.pre
  have hown : s.vm.findClass RL = some m.cls := findClass_of_methodNamed B.named
  have hlocks := B.notSynchronized
  subst hsz
  have hD := hD0.self (sz := s.heap.size)
  generalize hAe : va_A ([zAJ cJ adW 60 fw, zAJ cJ adU 33 fu, zAJ cJ adG 60 fg, zAI cI adN 6 fn] ++ wB cI cJ cO adB adA lf bs a T) s.heap.size = A at hD ⊢
  have hA : ∀ q : Nat, s.heap.size ≤ q → A q := fun q h => by rw [← hAe]; exact Or.inr h
  have hS : va_S A s.heap s.heap [] := va_S.rf
  have hl := lv_entry ([.ref adB, .ref adW, .ref adN, .int (nI k), .int (0 : Int32)]) (n := 8) (Nat.le_of_ble_eq_true rfl)
  rw [lg_entry_eq]
  generalize (lg_sl ([.ref adB, .ref adW, .ref adN, .int (nI k), .int (0 : Int32)]) ++ List.replicate (8 - (lg_sl ([.ref adB, .ref adW, .ref adN, .int (nI k), .int (0 : Int32)])).length) Slot.unset).toArray = ls at hl ⊢
  have hl : lv_has ls 8 [(0, .ref adB), (1, .ref adW), (2, .ref adN), (3, .int (nI k)), (4, .int (0 : Int32))] := hl
  refine hh_name (fun Q hQ => ?_)
  have K := fx_mk hx hb hml hown hts hG hK hlf
  have hcs : (0 : Nat) ≤ 0 ∧ (0 : Nat) ≤ 0 := ⟨Nat.zero_le _, Nat.zero_le _⟩
  refine lv_aload_n hx hb dL_modes_0 rfl (lv_at hl 0 rfl) ?_
  refine lv_iload_n hx hb dL_modes_1 rfl (lv_at hl 3 rfl) ?_
  refine s_mode (k := k)  K hk  ⟨Nat.le_of_ble_eq_true rfl, Nat.le_of_ble_eq_true rfl⟩ hcs (Nat.le_of_ble_eq_true rfl) hP hD hS hA hl.1 dL_modes_2 (fun H locs hP hD hS => ?_)
  refine hh_seti (y := (yl_lmo (T k))) (rfl) ?_
  refine lv_istore (lv' := [(5, .int (yl_lmo (T k))), (0, .ref adB), (1, .ref adW), (2, .ref adN), (3, .int (nI k)), (4, .int (0 : Int32))]) hx hb dL_modes_5 hl (by decide) rfl (fun ls hl => ?_)
  refine lv_bipush (v := 20) hx hb dL_modes_7 (by decide) ?_
  refine lv_iload_n hx hb dL_modes_9 rfl (lv_at hl 4 rfl) ?_
  refine lv_imul hx hb dL_modes_10 ?_
  refine hh_seti (y := (nI (20 * k))) (lwMul (a := 20) (b := k) (by omega)) ?_
  refine lv_istore (lv' := [(6, .int (nI (20 * k))), (5, .int (yl_lmo (T k))), (0, .ref adB), (1, .ref adW), (2, .ref adN), (3, .int (nI k)), (4, .int (0 : Int32))]) hx hb dL_modes_11 hl (by decide) rfl (fun ls hl => ?_)
  have J1 : ∀ (H : Heap) (locs : List Loc) (ls : Array Slot), va_P (dC, dI) vwCl ([zAJ cJ adW 60 fw, zAJ cJ adU 33 fu, zAJ cJ adG 60 fg, zAI cI adN 6 fn] ++ wB cI cJ cO adB adA lf bs a T) H → va_D A ([zAJ cJ adW 60 fw, zAJ cJ adU 33 fu, zAJ cJ adG 60 fg, zAI cI adN 6 fn] ++ wB cI cJ cO adB adA lf bs a T) → va_S A s.heap H locs → lv_has ls 8 [(6, .int (nI (20 * k))), (5, .int (yl_lmo (T k))), (0, .ref adB), (1, .ref adW), (2, .ref adN), (3, .int (nI k)), (4, .int (0 : Int32))] → W p l e (headSpec (Cond.code yL_modes cL_modes 8 (some .boolean) :: wAll) ({ frames := 4, cells := 0, slots := 0, locals := 87 })).room s m ([.ref adB, .ref adW, .ref adN, .int (nI k), .int (0 : Int32)] : List Value).toArray below meth c H locs (0) (0) Q (F0 m 44 ls []) := by
    intro H locs ls hP hD hS hl
    refine lv_aload_n hx hb dL_modes_44 rfl (lv_at hl 2 rfl) ?_
    refine lv_iload_n hx hb dL_modes_45 rfl (lv_at hl 5 rfl) ?_
    refine lv_iload hx hb dL_modes_46 (lv_at hl 6 rfl) ?_
    refine s_setMode (k := k) (mov := (0 : Int32)) K hk (by decide) (by decide) (md_q6 (Or.inr rfl)) (md_q7 (fun q => absurd q (by decide))) ⟨Nat.le_of_ble_eq_true rfl, Nat.le_of_ble_eq_true rfl⟩ hcs (Nat.le_of_ble_eq_true rfl) hP hD hS hA hl.1 dL_modes_48 (fun H locs hP hD hS => ?_)
    refine hh_seti (y := (yl_lmo (T k))) (rfl) ?_
    refine lv_iload hx hb dL_modes_51 (lv_at hl 1 rfl) ?_
    refine lv_icmp_ne (tgt := 70) hx hb dL_modes_53 (by decide) (fun h9 => absurd (rfl) h9) (fun _ => ?_)
    refine lv_aload_n hx hb dL_modes_56 rfl (lv_at hl 2 rfl) ?_
    refine lv_iload_n hx hb dL_modes_57 rfl (lv_at hl 5 rfl) ?_
    refine s_mode (k := k)  K hk  ⟨Nat.le_of_ble_eq_true rfl, Nat.le_of_ble_eq_true rfl⟩ hcs (Nat.le_of_ble_eq_true rfl) hP hD hS hA hl.1 dL_modes_58 (fun H locs hP hD hS => ?_)
    refine hh_seti (y := (yl_lmo (lu_setMode (T k) (0 : Int32)))) (by rw [upT_e] <;> rfl) ?_
    refine lv_iload hx hb dL_modes_61 (lv_at hl 6 rfl) ?_
    refine lv_icmp_ne (tgt := 70) hx hb dL_modes_63 (by decide) (fun h9 => absurd (md_lmo _ _) h9) (fun _ => ?_)
    refine lv_iconst (v := 1) hx hb dL_modes_66 (by decide) ?_
    refine lv_goto (tgt := 71) hx hb dL_modes_67 (by decide) ?_
    refine lv_istore (lv' := [(7, .int (1 : Int32)), (6, .int (nI (20 * k))), (5, .int (yl_lmo (T k))), (0, .ref adB), (1, .ref adW), (2, .ref adN), (3, .int (nI k)), (4, .int (0 : Int32))]) hx hb dL_modes_71 hl (by decide) rfl (fun ls hl => ?_)
    refine lv_iload hx hb dL_modes_73 (lv_at hl 2 rfl) ?_
    refine lv_if_ne (tgt := 142) hx hb dL_modes_75 (by decide) (fun h0 => ?_) (fun h0 => ?_)
    · skip
      refine lv_iload hx hb dL_modes_142 (lv_at hl 7 rfl) ?_
      refine lv_if_ne (tgt := 198) hx hb dL_modes_144 (by decide) (fun h9 => absurd h9 (by decide)) (fun _ => ?_)
      refine lv_iload hx hb dL_modes_147 (lv_at hl 2 rfl) ?_
      refine lv_if_le (tgt := 198) hx hb dL_modes_149 (by decide) (fun h9 => absurd h9 (md_pos hR h0)) (fun _ => ?_)
      refine lv_aload_n hx hb dL_modes_152 rfl (lv_at hl 4 rfl) ?_
      refine lv_iload hx hb dL_modes_153 (lv_at hl 1 rfl) ?_
      refine lv_bipush (v := 7) hx hb dL_modes_155 (by decide) ?_
      refine lv_iadd hx hb dL_modes_157 ?_
      refine hh_seti (y := (nI (20 * k + 7))) (lwAdd (a := 20 * k) (b := 7) (by omega)) ?_
      refine lv_aload_n hx hb dL_modes_158 rfl (lv_at hl 3 rfl) ?_
      refine lv_iload_n hx hb dL_modes_159 rfl (lv_at hl 6 rfl) ?_
      refine s_output (k := k)  K hk  ⟨Nat.le_of_ble_eq_true rfl, Nat.le_of_ble_eq_true rfl⟩ hcs (Nat.le_of_ble_eq_true rfl) hP hD hS hA hl.1 dL_modes_160 (fun H locs hP hD hS => ?_)
      refine hh_setl (y := (yl_lou (lu_setMode (T k) (0 : Int32)))) (by rw [upT_e] <;> rfl) ?_
      refine lr_ls hx hb hK hP hD hS 0 1 (e0 := 20 * k + 7) rfl rfl (by omega) (by decide) dL_modes_163 (w1 := ([zAJ cJ adW 60 (vp_updL fw (20 * k + 7) (yl_lou (lu_setMode (T k) (0 : Int32)))), zAJ cJ adU 33 fu, zAJ cJ adG 60 fg, zAI cI adN 6 fn] ++ wB cI cJ cO adB adA lf bs a (upT T k (lu_setMode (T k) (0 : Int32))))) rfl (fun H locs hP hD hS => ?_)
      refine lv_aload_n hx hb dL_modes_164 rfl (lv_at hl 4 rfl) ?_
      refine lv_iload hx hb dL_modes_165 (lv_at hl 1 rfl) ?_
      refine lv_bipush (v := 15) hx hb dL_modes_167 (by decide) ?_
      refine lv_iadd hx hb dL_modes_169 ?_
      refine hh_seti (y := (nI (20 * k + 15))) (lwAdd (a := 20 * k) (b := 15) (by omega)) ?_
      refine lv_lconst (v := 0) hx hb dL_modes_170 (by decide) ?_
      refine lr_ls hx hb hK hP hD hS 0 1 (e0 := 20 * k + 15) rfl rfl (by omega) (by decide) dL_modes_171 (w1 := ([zAJ cJ adW 60 (vp_updL (vp_updL fw (20 * k + 7) (yl_lou (lu_setMode (T k) (0 : Int32)))) (20 * k + 15) (0 : Int64)), zAJ cJ adU 33 fu, zAJ cJ adG 60 fg, zAI cI adN 6 fn] ++ wB cI cJ cO adB adA lf bs a (upT T k (lu_setMode (T k) (0 : Int32))))) rfl (fun H locs hP hD hS => ?_)
      refine lv_iload hx hb dL_modes_172 (lv_at hl 0 rfl) ?_
      refine lv_if_eq (tgt := 195) hx hb dL_modes_174 (by decide) (fun h9 => absurd h9 (by decide)) (fun _ => ?_)
      refine lv_iload hx hb dL_modes_177 (lv_at hl 2 rfl) ?_
      refine lv_iconst (v := 3) hx hb dL_modes_179 (by decide) ?_
      refine lv_icmp_ne (tgt := 191) hx hb dL_modes_180 (by decide) (fun h3b => ?_) (fun h3b => ?_)
      · skip
        refine lv_iconst (v := 1) hx hb dL_modes_191 (by decide) ?_
        refine lv_goto (tgt := 196) hx hb dL_modes_192 (by decide) ?_
        refine lv_istore (lv' := [(7, .int (1 : Int32)), (6, .int (nI (20 * k))), (5, .int (yl_lmo (T k))), (0, .ref adB), (1, .ref adW), (2, .ref adN), (3, .int (nI k)), (4, .int (0 : Int32))]) hx hb dL_modes_196 hl (by decide) rfl (fun ls hl => ?_)
        refine lv_iload hx hb dL_modes_198 (lv_at hl 0 rfl) ?_
        exact hh_retS (w := fun (u : (Nat → Int64) × (Nat → LT)) => ([zAJ cJ adW 60 u.1, zAJ cJ adU 33 fu, zAJ cJ adG 60 fg, zAI cI adN 6 fn] ++ wB cI cJ cO adB adA lf bs a u.2)) (((vp_updL (vp_updL fw (20 * k + 7) (yl_lou (lu_setMode (T k) (0 : Int32)))) (20 * k + 15) (0 : Int64)), (upT T k (lu_setMode (T k) (0 : Int32))))) hQ (⟨rfl, SP_mk ((md_dn hR h0).1) (by intro i hi; (try dsimp only); repeat rw [ul_ne _ _ (by omega)]) (fun _ _ => rfl) (fun _ _ _ => rfl)⟩) (rfl) hx hb hr hlocks hP hK hD hS dL_modes_200
      · skip
        refine lv_aload_n hx hb dL_modes_183 rfl (lv_at hl 3 rfl) ?_
        refine lv_iload_n hx hb dL_modes_184 rfl (lv_at hl 6 rfl) ?_
        refine s_experiment (k := k)  K hk  ⟨Nat.le_of_ble_eq_true rfl, Nat.le_of_ble_eq_true rfl⟩ hcs (Nat.le_of_ble_eq_true rfl) hP hD hS hA hl.1 dL_modes_185 (fun H locs hP hD hS => ?_)
        refine hh_seti (y := (yl_rpr (lu_setMode (T k) (0 : Int32)))) (by rw [upT_e] <;> rfl) ?_
        refine lv_if_ne (tgt := 195) hx hb dL_modes_188 (by decide) (fun h9 => absurd ((md_dn hR h0).2 h3b) h9) (fun _ => ?_)
        refine lv_iconst (v := 1) hx hb dL_modes_191 (by decide) ?_
        refine lv_goto (tgt := 196) hx hb dL_modes_192 (by decide) ?_
        refine lv_istore (lv' := [(7, .int (1 : Int32)), (6, .int (nI (20 * k))), (5, .int (yl_lmo (T k))), (0, .ref adB), (1, .ref adW), (2, .ref adN), (3, .int (nI k)), (4, .int (0 : Int32))]) hx hb dL_modes_196 hl (by decide) rfl (fun ls hl => ?_)
        refine lv_iload hx hb dL_modes_198 (lv_at hl 0 rfl) ?_
        exact hh_retS (w := fun (u : (Nat → Int64) × (Nat → LT)) => ([zAJ cJ adW 60 u.1, zAJ cJ adU 33 fu, zAJ cJ adG 60 fg, zAI cI adN 6 fn] ++ wB cI cJ cO adB adA lf bs a u.2)) (((vp_updL (vp_updL fw (20 * k + 7) (yl_lou (lu_setMode (T k) (0 : Int32)))) (20 * k + 15) (0 : Int64)), (upT T k (lu_setMode (T k) (0 : Int32))))) hQ (⟨rfl, SP_mk ((md_dn hR h0).1) (by intro i hi; (try dsimp only); repeat rw [ul_ne _ _ (by omega)]) (fun _ _ => rfl) (fun _ _ _ => rfl)⟩) (rfl) hx hb hr hlocks hP hK hD hS dL_modes_200
    · skip
      refine lv_iload hx hb dL_modes_78 (lv_at hl 7 rfl) ?_
      refine lv_if_le (tgt := 142) hx hb dL_modes_80 (by decide) (fun _ => ?_) (fun h9 => absurd h9 (by decide))
      refine lv_iload hx hb dL_modes_142 (lv_at hl 7 rfl) ?_
      refine lv_if_ne (tgt := 198) hx hb dL_modes_144 (by decide) (fun h9 => absurd h9 (by decide)) (fun _ => ?_)
      refine lv_iload hx hb dL_modes_147 (lv_at hl 2 rfl) ?_
      refine lv_if_le (tgt := 198) hx hb dL_modes_149 (by decide) (fun _ => ?_) (fun h9 => absurd ((by rw [h0]; decide)) h9)
      refine lv_iload hx hb dL_modes_198 (lv_at hl 0 rfl) ?_
      exact hh_retS (w := fun (u : (Nat → Int64) × (Nat → LT)) => ([zAJ cJ adW 60 u.1, zAJ cJ adU 33 fu, zAJ cJ adG 60 fg, zAI cI adN 6 fn] ++ wB cI cJ cO adB adA lf bs a u.2)) ((fw, (upT T k (lu_setMode (T k) (0 : Int32))))) hQ (⟨rfl, SP_mk ((md_00 hR h0)) (fun _ _ => rfl) (fun _ _ => rfl) (fun _ _ _ => rfl)⟩) (rfl) hx hb hr hlocks hP hK hD hS dL_modes_200
  refine lv_iload hx hb dL_modes_13 (lv_at hl 1 rfl) ?_
  refine lv_iconst (v := 3) hx hb dL_modes_15 (by decide) ?_
  refine lv_icmp_ne (tgt := 24) hx hb dL_modes_16 (by decide) (fun h3 => ?_) (fun h3 => ?_)
  · skip
    refine lv_iload hx hb dL_modes_24 (lv_at hl 6 rfl) ?_
    refine lv_iconst (v := 2) hx hb dL_modes_26 (by decide) ?_
    refine lv_icmp_ne (tgt := 44) hx hb dL_modes_27 (by decide) (fun _ => ?_) (fun h9 => absurd h9 (by decide))
    exact J1 H locs ls hP hD hS (lv_sub hl [0, 1, 2, 3, 4, 5, 6] rfl)
  · skip
    refine lv_iload hx hb dL_modes_19 (lv_at hl 6 rfl) ?_
    refine lv_if_ne (tgt := 42) hx hb dL_modes_21 (by decide) (fun h9 => absurd h9 (by decide)) (fun _ => ?_)
    refine lv_iload hx hb dL_modes_24 (lv_at hl 6 rfl) ?_
    refine lv_iconst (v := 2) hx hb dL_modes_26 (by decide) ?_
    refine lv_icmp_ne (tgt := 44) hx hb dL_modes_27 (by decide) (fun _ => ?_) (fun h9 => absurd h9 (by decide))
    exact J1 H locs ls hP hD hS (lv_sub hl [0, 1, 2, 3, 4, 5, 6] rfl)
set_option maxHeartbeats 4000000 in
set_option maxRecDepth 100000 in
theorem c_L_modes_1 (l : Launch) (dC : Nat → ClassId) (dI : Nat → Nat → Nat) (cI cJ cZ cO : ClassId) (adB adA adW adU adG adN : Nat) (lf : Nat → Option Nat) (a : Nat → AT) (bs : Int32) (T : Nat → LT) (fw fu fg : Nat → Int64) (fn : Nat → Int32) (k : Nat) (sz : Nat) (hlf : ∀ j : Nat, j < 3 → lf (nI j).toNatClampNeg = some (ya_adL (a j))) (hk : k < 3) (hR : RP k (T k) fw fu fg fn) (h15 : fw (20 * k + 15) = 0) : Met l yL_modes (Cond.code yL_modes cL_modes 8 (some .boolean) :: wAll) ({ frames := 4, cells := 0, slots := 0, locals := 87 }) (va_Pc [.ref adB, .ref adW, .ref adN, .int (nI k), .int (1 : Int32)] (gP (dC, dI) ([zAJ cJ adW 60 fw, zAJ cJ adU 33 fu, zAJ cJ adG 60 fg, zAI cI adN 6 fn] ++ wB cI cJ cO adB adA lf bs a T) (tyG cI cJ cZ cO) sz gN)) (va_Qi (fun r (u : (Nat → Int64) × (Nat → LT)) => r = 1 ∧ SPost k T fw fu fg fn u.1 fg fn u.2) (fun u t => gB (dC, dI) (va_A ([zAJ cJ adW 60 fw, zAJ cJ adU 33 fu, zAJ cJ adG 60 fg, zAI cI adN 6 fn] ++ wB cI cJ cO adB adA lf bs a T) sz) ([zAJ cJ adW 60 u.1, zAJ cJ adU 33 fu, zAJ cJ adG 60 fg, zAI cI adN 6 fn] ++ wB cI cJ cO adB adA lf bs a u.2) (tyG cI cJ cZ cO) t) (va_A ([zAJ cJ adW 60 fw, zAJ cJ adU 33 fu, zAJ cJ adG 60 fg, zAI cI adN 6 fn] ++ wB cI cJ cO adB adA lf bs a T) sz)) 0 0 (va_A ([zAJ cJ adW 60 fw, zAJ cJ adU 33 fu, zAJ cJ adG 60 fg, zAI cI adN 6 fn] ++ wB cI cJ cO adB adA lf bs a T) sz) := by
  refine Met.ofW (cc := cL_modes) (maxL := 8) (ret := (some .boolean)) (by decide) rfl ?_
  intro p e s m args below meth c s₁ B hml hv
  obtain ⟨rfl, hsz, hP, hK, hD0, hG⟩ := hv
  have hx := B.exec
  have hb := B.bytes
  have hr := B.returns
  have hts := ht_of B.pre
  have hown : s.vm.findClass RL = some m.cls := findClass_of_methodNamed B.named
  have hlocks := B.notSynchronized
  subst hsz
  have hD := hD0.self (sz := s.heap.size)
  generalize hAe : va_A ([zAJ cJ adW 60 fw, zAJ cJ adU 33 fu, zAJ cJ adG 60 fg, zAI cI adN 6 fn] ++ wB cI cJ cO adB adA lf bs a T) s.heap.size = A at hD ⊢
  have hA : ∀ q : Nat, s.heap.size ≤ q → A q := fun q h => by rw [← hAe]; exact Or.inr h
  have hS : va_S A s.heap s.heap [] := va_S.rf
  have hl := lv_entry ([.ref adB, .ref adW, .ref adN, .int (nI k), .int (1 : Int32)]) (n := 8) (Nat.le_of_ble_eq_true rfl)
  rw [lg_entry_eq]
  generalize (lg_sl ([.ref adB, .ref adW, .ref adN, .int (nI k), .int (1 : Int32)]) ++ List.replicate (8 - (lg_sl ([.ref adB, .ref adW, .ref adN, .int (nI k), .int (1 : Int32)])).length) Slot.unset).toArray = ls at hl ⊢
  have hl : lv_has ls 8 [(0, .ref adB), (1, .ref adW), (2, .ref adN), (3, .int (nI k)), (4, .int (1 : Int32))] := hl
  refine hh_name (fun Q hQ => ?_)
  have K := fx_mk hx hb hml hown hts hG hK hlf
  have hcs : (0 : Nat) ≤ 0 ∧ (0 : Nat) ≤ 0 := ⟨Nat.zero_le _, Nat.zero_le _⟩
  refine lv_aload_n hx hb dL_modes_0 rfl (lv_at hl 0 rfl) ?_
  refine lv_iload_n hx hb dL_modes_1 rfl (lv_at hl 3 rfl) ?_
  refine s_mode (k := k)  K hk  ⟨Nat.le_of_ble_eq_true rfl, Nat.le_of_ble_eq_true rfl⟩ hcs (Nat.le_of_ble_eq_true rfl) hP hD hS hA hl.1 dL_modes_2 (fun H locs hP hD hS => ?_)
  refine hh_seti (y := (yl_lmo (T k))) (rfl) ?_
  refine lv_istore (lv' := [(5, .int (yl_lmo (T k))), (0, .ref adB), (1, .ref adW), (2, .ref adN), (3, .int (nI k)), (4, .int (1 : Int32))]) hx hb dL_modes_5 hl (by decide) rfl (fun ls hl => ?_)
  refine lv_bipush (v := 20) hx hb dL_modes_7 (by decide) ?_
  refine lv_iload_n hx hb dL_modes_9 rfl (lv_at hl 4 rfl) ?_
  refine lv_imul hx hb dL_modes_10 ?_
  refine hh_seti (y := (nI (20 * k))) (lwMul (a := 20) (b := k) (by omega)) ?_
  refine lv_istore (lv' := [(6, .int (nI (20 * k))), (5, .int (yl_lmo (T k))), (0, .ref adB), (1, .ref adW), (2, .ref adN), (3, .int (nI k)), (4, .int (1 : Int32))]) hx hb dL_modes_11 hl (by decide) rfl (fun ls hl => ?_)
  refine lv_iload hx hb dL_modes_13 (lv_at hl 1 rfl) ?_
  refine lv_iconst (v := 3) hx hb dL_modes_15 (by decide) ?_
  refine lv_icmp_ne (tgt := 24) hx hb dL_modes_16 (by decide) (fun h3 => ?_) (fun h3 => ?_)
  · skip
    refine lv_iload hx hb dL_modes_24 (lv_at hl 6 rfl) ?_
    refine lv_iconst (v := 2) hx hb dL_modes_26 (by decide) ?_
    refine lv_icmp_ne (tgt := 44) hx hb dL_modes_27 (by decide) (fun _ => ?_) (fun h9 => absurd h9 (by decide))
    refine lv_aload_n hx hb dL_modes_44 rfl (lv_at hl 2 rfl) ?_
    refine lv_iload_n hx hb dL_modes_45 rfl (lv_at hl 5 rfl) ?_
    refine lv_iload hx hb dL_modes_46 (lv_at hl 6 rfl) ?_
    refine s_setMode (k := k) (mov := (1 : Int32)) K hk (by decide) (by decide) (md_q6 (Or.inl h3)) (md_q7 (fun q => absurd q (by decide))) ⟨Nat.le_of_ble_eq_true rfl, Nat.le_of_ble_eq_true rfl⟩ hcs (Nat.le_of_ble_eq_true rfl) hP hD hS hA hl.1 dL_modes_48 (fun H locs hP hD hS => ?_)
    refine hh_seti (y := (yl_lmo (T k))) (rfl) ?_
    refine lv_iload hx hb dL_modes_51 (lv_at hl 1 rfl) ?_
    refine lv_icmp_ne (tgt := 70) hx hb dL_modes_53 (by decide) (fun h9 => absurd (rfl) h9) (fun _ => ?_)
    refine lv_aload_n hx hb dL_modes_56 rfl (lv_at hl 2 rfl) ?_
    refine lv_iload_n hx hb dL_modes_57 rfl (lv_at hl 5 rfl) ?_
    refine s_mode (k := k)  K hk  ⟨Nat.le_of_ble_eq_true rfl, Nat.le_of_ble_eq_true rfl⟩ hcs (Nat.le_of_ble_eq_true rfl) hP hD hS hA hl.1 dL_modes_58 (fun H locs hP hD hS => ?_)
    refine hh_seti (y := (yl_lmo (lu_setMode (T k) (1 : Int32)))) (by rw [upT_e] <;> rfl) ?_
    refine lv_iload hx hb dL_modes_61 (lv_at hl 6 rfl) ?_
    refine lv_icmp_ne (tgt := 70) hx hb dL_modes_63 (by decide) (fun h9 => absurd (md_lmo _ _) h9) (fun _ => ?_)
    refine lv_iconst (v := 1) hx hb dL_modes_66 (by decide) ?_
    refine lv_goto (tgt := 71) hx hb dL_modes_67 (by decide) ?_
    refine lv_istore (lv' := [(7, .int (1 : Int32)), (6, .int (nI (20 * k))), (5, .int (yl_lmo (T k))), (0, .ref adB), (1, .ref adW), (2, .ref adN), (3, .int (nI k)), (4, .int (1 : Int32))]) hx hb dL_modes_71 hl (by decide) rfl (fun ls hl => ?_)
    refine lv_iload hx hb dL_modes_73 (lv_at hl 2 rfl) ?_
    refine lv_if_ne (tgt := 142) hx hb dL_modes_75 (by decide) (fun h0 => ?_) (fun h0 => ?_)
    · skip
      refine lv_iload hx hb dL_modes_142 (lv_at hl 7 rfl) ?_
      refine lv_if_ne (tgt := 198) hx hb dL_modes_144 (by decide) (fun _ => ?_) (fun h9 => absurd h9 (by decide))
      refine lv_iload hx hb dL_modes_198 (lv_at hl 0 rfl) ?_
      exact hh_retS (w := fun (u : (Nat → Int64) × (Nat → LT)) => ([zAJ cJ adW 60 u.1, zAJ cJ adU 33 fu, zAJ cJ adG 60 fg, zAI cI adN 6 fn] ++ wB cI cJ cO adB adA lf bs a u.2)) ((fw, (upT T k (lu_setMode (T k) (1 : Int32))))) hQ (⟨rfl, SP_mk ((md_same hR h0 h3 (Or.inl rfl) h15 (fun q => absurd q (by decide)))) (fun _ _ => rfl) (fun _ _ => rfl) (fun _ _ _ => rfl)⟩) (rfl) hx hb hr hlocks hP hK hD hS dL_modes_200
    · skip
      refine lv_iload hx hb dL_modes_78 (lv_at hl 7 rfl) ?_
      refine lv_if_le (tgt := 142) hx hb dL_modes_80 (by decide) (fun h9 => absurd h9 (by decide)) (fun _ => ?_)
      refine lv_aload_n hx hb dL_modes_83 rfl (lv_at hl 4 rfl) ?_
      refine lv_iload hx hb dL_modes_84 (lv_at hl 1 rfl) ?_
      refine lv_bipush (v := 15) hx hb dL_modes_86 (by decide) ?_
      refine lv_iadd hx hb dL_modes_88 ?_
      refine hh_seti (y := (nI (20 * k + 15))) (lwAdd (a := 20 * k) (b := 15) (by omega)) ?_
      refine lv_iload hx hb dL_modes_89 (lv_at hl 7 rfl) ?_
      refine lv_iconst (v := 1) hx hb dL_modes_91 (by decide) ?_
      refine lv_icmp_ne (tgt := 99) hx hb dL_modes_92 (by decide) (fun h9 => absurd h9 (by decide)) (fun _ => ?_)
      refine lv_lconst (v := 1) hx hb dL_modes_95 (by decide) ?_
      refine lv_goto (tgt := 100) hx hb dL_modes_96 (by decide) ?_
      refine lr_ls hx hb hK hP hD hS 0 1 (e0 := 20 * k + 15) rfl rfl (by omega) (by decide) dL_modes_100 (w1 := ([zAJ cJ adW 60 (vp_updL fw (20 * k + 15) (1 : Int64)), zAJ cJ adU 33 fu, zAJ cJ adG 60 fg, zAI cI adN 6 fn] ++ wB cI cJ cO adB adA lf bs a (upT T k (lu_setMode (T k) (1 : Int32))))) rfl (fun H locs hP hD hS => ?_)
      refine lv_aload_n hx hb dL_modes_101 rfl (lv_at hl 4 rfl) ?_
      refine lv_iload hx hb dL_modes_102 (lv_at hl 1 rfl) ?_
      refine lv_bipush (v := 16) hx hb dL_modes_104 (by decide) ?_
      refine lv_iadd hx hb dL_modes_106 ?_
      refine hh_seti (y := (nI (20 * k + 16))) (lwAdd (a := 20 * k) (b := 16) (by omega)) ?_
      refine lv_aload_n hx hb dL_modes_107 rfl (lv_at hl 3 rfl) ?_
      refine lv_iload_n hx hb dL_modes_108 rfl (lv_at hl 6 rfl) ?_
      refine s_output (k := k)  K hk  ⟨Nat.le_of_ble_eq_true rfl, Nat.le_of_ble_eq_true rfl⟩ hcs (Nat.le_of_ble_eq_true rfl) hP hD hS hA hl.1 dL_modes_109 (fun H locs hP hD hS => ?_)
      refine hh_setl (y := (yl_lou (lu_setMode (T k) (1 : Int32)))) (by rw [upT_e] <;> rfl) ?_
      refine lr_ls hx hb hK hP hD hS 0 1 (e0 := 20 * k + 16) rfl rfl (by omega) (by decide) dL_modes_112 (w1 := ([zAJ cJ adW 60 (vp_updL (vp_updL fw (20 * k + 15) (1 : Int64)) (20 * k + 16) (yl_lou (lu_setMode (T k) (1 : Int32)))), zAJ cJ adU 33 fu, zAJ cJ adG 60 fg, zAI cI adN 6 fn] ++ wB cI cJ cO adB adA lf bs a (upT T k (lu_setMode (T k) (1 : Int32))))) rfl (fun H locs hP hD hS => ?_)
      refine lv_aload_n hx hb dL_modes_113 rfl (lv_at hl 4 rfl) ?_
      refine lv_iload hx hb dL_modes_114 (lv_at hl 1 rfl) ?_
      refine lv_bipush (v := 14) hx hb dL_modes_116 (by decide) ?_
      refine lv_iadd hx hb dL_modes_118 ?_
      refine hh_seti (y := (nI (20 * k + 14))) (lwAdd (a := 20 * k) (b := 14) (by omega)) ?_
      refine lv_lconst (v := 0) hx hb dL_modes_119 (by decide) ?_
      refine lr_ls hx hb hK hP hD hS 0 1 (e0 := 20 * k + 14) rfl rfl (by omega) (by decide) dL_modes_120 (w1 := ([zAJ cJ adW 60 (vp_updL (vp_updL (vp_updL fw (20 * k + 15) (1 : Int64)) (20 * k + 16) (yl_lou (lu_setMode (T k) (1 : Int32)))) (20 * k + 14) (0 : Int64)), zAJ cJ adU 33 fu, zAJ cJ adG 60 fg, zAI cI adN 6 fn] ++ wB cI cJ cO adB adA lf bs a (upT T k (lu_setMode (T k) (1 : Int32))))) rfl (fun H locs hP hD hS => ?_)
      refine lv_iload hx hb dL_modes_121 (lv_at hl 0 rfl) ?_
      refine lv_if_eq (tgt := 139) hx hb dL_modes_123 (by decide) (fun h9 => absurd h9 (by decide)) (fun _ => ?_)
      refine lv_aload_n hx hb dL_modes_126 rfl (lv_at hl 3 rfl) ?_
      refine lv_aload_n hx hb dL_modes_127 rfl (lv_at hl 4 rfl) ?_
      refine lv_iload_n hx hb dL_modes_128 rfl (lv_at hl 6 rfl) ?_
      refine lw_RS (S := Unit) (wl := []) (wr := ([zAJ cJ adW 60 (vp_updL (vp_updL (vp_updL fw (20 * k + 15) (1 : Int64)) (20 * k + 16) (yl_lou (lu_setMode (T k) (1 : Int32)))) (20 * k + 14) (0 : Int64)), zAJ cJ adU 33 fu, zAJ cJ adG 60 fg, zAI cI adN 6 fn] ++ wB cI cJ cO adB adA lf bs a (upT T k (lu_setMode (T k) (1 : Int32))))) (wq := fun u => ([zAJ cJ adW 60 (vp_updL (vp_updL (vp_updL fw (20 * k + 15) (1 : Int64)) (20 * k + 16) (yl_lou (lu_setMode (T k) (1 : Int32)))) (20 * k + 14) (0 : Int64)), zAJ cJ adU 33 fu, zAJ cJ adG 60 fg, zAI cI adN 6 fn] ++ wB cI cJ cO adB adA lf bs a (upT T k (lu_setMode (T k) (1 : Int32))))) (rest := []) (va_runS (As := [.ref adB, .ref adW, .int (nI k)]) (rest := []) ⟨hx, hb, hml, hown, hts⟩ (c_L_isSettled l dC dI cI cJ cZ cO adB adA adW adU adG adN lf a bs (upT T k (lu_setMode (T k) (1 : Int32))) (vp_updL (vp_updL (vp_updL fw (20 * k + 15) (1 : Int64)) (20 * k + 16) (yl_lou (lu_setMode (T k) (1 : Int32)))) (20 * k + 14) (0 : Int64)) fu fg fn k _ hlf hk (by rw [upT_e, ul_ne _ _ (by omega), ul_ne _ _ (by omega), ul_ne _ _ (by omega)]; exact (md_up (m := 1) (v := 1) hR h0 (Or.inl rfl) (Or.inl ⟨rfl, rfl⟩) (fun q => absurd q (by decide))).2)) (va_cwS 3 hts (gd_S wd_3_38 wd_3_39 wd_1_0 wd_3_40) rfl rfl rfl (by decide +kernel) ⟨Nat.le_of_ble_eq_true rfl, Nat.le_of_ble_eq_true rfl⟩) (lw_S2 (wl := []) gN_c (fun U _ hW => gN_w hW hG) hK (List.Perm.refl _) hP hD) rfl rfl hl.1 rfl (lv_room (Nat.le_of_ble_eq_true rfl)) dL_modes_129 hcs) hP hD hS hA (fun r u H locs hpost hP hD hS => ?_)
      subst hpost
      have hP : va_P (dC, dI) vwCl ([zAJ cJ adW 60 (vp_updL (vp_updL (vp_updL fw (20 * k + 15) (1 : Int64)) (20 * k + 16) (yl_lou (lu_setMode (T k) (1 : Int32)))) (20 * k + 14) (0 : Int64)), zAJ cJ adU 33 fu, zAJ cJ adG 60 fg, zAI cI adN 6 fn] ++ wB cI cJ cO adB adA lf bs a (upT T k (lu_setMode (T k) (1 : Int32)))) H := hP
      have hD : va_D A ([zAJ cJ adW 60 (vp_updL (vp_updL (vp_updL fw (20 * k + 15) (1 : Int64)) (20 * k + 16) (yl_lou (lu_setMode (T k) (1 : Int32)))) (20 * k + 14) (0 : Int64)), zAJ cJ adU 33 fu, zAJ cJ adG 60 fg, zAI cI adN 6 fn] ++ wB cI cJ cO adB adA lf bs a (upT T k (lu_setMode (T k) (1 : Int32)))) := hD
      refine lv_if_eq (tgt := 139) hx hb dL_modes_132 (by decide) (fun h9 => absurd h9 (by decide)) (fun _ => ?_)
      refine lv_iconst (v := 1) hx hb dL_modes_135 (by decide) ?_
      refine lv_goto (tgt := 140) hx hb dL_modes_136 (by decide) ?_
      refine lv_istore (lv' := [(7, .int (1 : Int32)), (6, .int (nI (20 * k))), (5, .int (yl_lmo (T k))), (0, .ref adB), (1, .ref adW), (2, .ref adN), (3, .int (nI k)), (4, .int (1 : Int32))]) hx hb dL_modes_140 hl (by decide) rfl (fun ls hl => ?_)
      refine lv_iload hx hb dL_modes_142 (lv_at hl 7 rfl) ?_
      refine lv_if_ne (tgt := 198) hx hb dL_modes_144 (by decide) (fun _ => ?_) (fun h9 => absurd h9 (by decide))
      refine lv_iload hx hb dL_modes_198 (lv_at hl 0 rfl) ?_
      exact hh_retS (w := fun (u : (Nat → Int64) × (Nat → LT)) => ([zAJ cJ adW 60 u.1, zAJ cJ adU 33 fu, zAJ cJ adG 60 fg, zAI cI adN 6 fn] ++ wB cI cJ cO adB adA lf bs a u.2)) (((vp_updL (vp_updL (vp_updL fw (20 * k + 15) (1 : Int64)) (20 * k + 16) (yl_lou (lu_setMode (T k) (1 : Int32)))) (20 * k + 14) (0 : Int64)), (upT T k (lu_setMode (T k) (1 : Int32))))) hQ (⟨rfl, SP_mk ((md_up (m := 1) (v := 1) hR h0 (Or.inl rfl) (Or.inl ⟨rfl, rfl⟩) (fun q => absurd q (by decide))).1) (by intro i hi; (try dsimp only); repeat rw [ul_ne _ _ (by omega)]) (fun _ _ => rfl) (fun _ _ _ => rfl)⟩) (rfl) hx hb hr hlocks hP hK hD hS dL_modes_200
  · skip
    refine lv_iload hx hb dL_modes_19 (lv_at hl 6 rfl) ?_
    refine lv_if_ne (tgt := 42) hx hb dL_modes_21 (by decide) (fun _ => ?_) (fun h9 => absurd h9 (by decide))
    refine lv_iconst (v := 1) hx hb dL_modes_42 (by decide) ?_
    exact hh_retS (w := fun (u : (Nat → Int64) × (Nat → LT)) => ([zAJ cJ adW 60 u.1, zAJ cJ adU 33 fu, zAJ cJ adG 60 fg, zAI cI adN 6 fn] ++ wB cI cJ cO adB adA lf bs a u.2)) ((fw, T)) hQ (⟨rfl, SP_id hR⟩) (rfl) hx hb hr hlocks hP hK hD hS dL_modes_43
set_option maxHeartbeats 4000000 in
set_option maxRecDepth 100000 in
theorem c_L_modes_2 (l : Launch) (dC : Nat → ClassId) (dI : Nat → Nat → Nat) (cI cJ cZ cO : ClassId) (adB adA adW adU adG adN : Nat) (lf : Nat → Option Nat) (a : Nat → AT) (bs : Int32) (T : Nat → LT) (fw fu fg : Nat → Int64) (fn : Nat → Int32) (k : Nat) (sz : Nat) (hlf : ∀ j : Nat, j < 3 → lf (nI j).toNatClampNeg = some (ya_adL (a j))) (hk : k < 3) (hR : RP k (T k) fw fu fg fn) (h15 : fw (20 * k + 15) = 0) : Met l yL_modes (Cond.code yL_modes cL_modes 8 (some .boolean) :: wAll) ({ frames := 4, cells := 0, slots := 0, locals := 87 }) (va_Pc [.ref adB, .ref adW, .ref adN, .int (nI k), .int (2 : Int32)] (gP (dC, dI) ([zAJ cJ adW 60 fw, zAJ cJ adU 33 fu, zAJ cJ adG 60 fg, zAI cI adN 6 fn] ++ wB cI cJ cO adB adA lf bs a T) (tyG cI cJ cZ cO) sz gN)) (va_Qi (fun r (u : (Nat → Int64) × (Nat → LT)) => r = 1 ∧ SPost k T fw fu fg fn u.1 fg fn u.2) (fun u t => gB (dC, dI) (va_A ([zAJ cJ adW 60 fw, zAJ cJ adU 33 fu, zAJ cJ adG 60 fg, zAI cI adN 6 fn] ++ wB cI cJ cO adB adA lf bs a T) sz) ([zAJ cJ adW 60 u.1, zAJ cJ adU 33 fu, zAJ cJ adG 60 fg, zAI cI adN 6 fn] ++ wB cI cJ cO adB adA lf bs a u.2) (tyG cI cJ cZ cO) t) (va_A ([zAJ cJ adW 60 fw, zAJ cJ adU 33 fu, zAJ cJ adG 60 fg, zAI cI adN 6 fn] ++ wB cI cJ cO adB adA lf bs a T) sz)) 0 0 (va_A ([zAJ cJ adW 60 fw, zAJ cJ adU 33 fu, zAJ cJ adG 60 fg, zAI cI adN 6 fn] ++ wB cI cJ cO adB adA lf bs a T) sz) := by
  refine Met.ofW (cc := cL_modes) (maxL := 8) (ret := (some .boolean)) (by decide) rfl ?_
  intro p e s m args below meth c s₁ B hml hv
  obtain ⟨rfl, hsz, hP, hK, hD0, hG⟩ := hv
  have hx := B.exec
  have hb := B.bytes
  have hr := B.returns
  have hts := ht_of B.pre
  have hown : s.vm.findClass RL = some m.cls := findClass_of_methodNamed B.named
  have hlocks := B.notSynchronized
  subst hsz
  have hD := hD0.self (sz := s.heap.size)
  generalize hAe : va_A ([zAJ cJ adW 60 fw, zAJ cJ adU 33 fu, zAJ cJ adG 60 fg, zAI cI adN 6 fn] ++ wB cI cJ cO adB adA lf bs a T) s.heap.size = A at hD ⊢
  have hA : ∀ q : Nat, s.heap.size ≤ q → A q := fun q h => by rw [← hAe]; exact Or.inr h
  have hS : va_S A s.heap s.heap [] := va_S.rf
  have hl := lv_entry ([.ref adB, .ref adW, .ref adN, .int (nI k), .int (2 : Int32)]) (n := 8) (Nat.le_of_ble_eq_true rfl)
  rw [lg_entry_eq]
  generalize (lg_sl ([.ref adB, .ref adW, .ref adN, .int (nI k), .int (2 : Int32)]) ++ List.replicate (8 - (lg_sl ([.ref adB, .ref adW, .ref adN, .int (nI k), .int (2 : Int32)])).length) Slot.unset).toArray = ls at hl ⊢
  have hl : lv_has ls 8 [(0, .ref adB), (1, .ref adW), (2, .ref adN), (3, .int (nI k)), (4, .int (2 : Int32))] := hl
  refine hh_name (fun Q hQ => ?_)
  have K := fx_mk hx hb hml hown hts hG hK hlf
  have hcs : (0 : Nat) ≤ 0 ∧ (0 : Nat) ≤ 0 := ⟨Nat.zero_le _, Nat.zero_le _⟩
  refine lv_aload_n hx hb dL_modes_0 rfl (lv_at hl 0 rfl) ?_
  refine lv_iload_n hx hb dL_modes_1 rfl (lv_at hl 3 rfl) ?_
  refine s_mode (k := k)  K hk  ⟨Nat.le_of_ble_eq_true rfl, Nat.le_of_ble_eq_true rfl⟩ hcs (Nat.le_of_ble_eq_true rfl) hP hD hS hA hl.1 dL_modes_2 (fun H locs hP hD hS => ?_)
  refine hh_seti (y := (yl_lmo (T k))) (rfl) ?_
  refine lv_istore (lv' := [(5, .int (yl_lmo (T k))), (0, .ref adB), (1, .ref adW), (2, .ref adN), (3, .int (nI k)), (4, .int (2 : Int32))]) hx hb dL_modes_5 hl (by decide) rfl (fun ls hl => ?_)
  refine lv_bipush (v := 20) hx hb dL_modes_7 (by decide) ?_
  refine lv_iload_n hx hb dL_modes_9 rfl (lv_at hl 4 rfl) ?_
  refine lv_imul hx hb dL_modes_10 ?_
  refine hh_seti (y := (nI (20 * k))) (lwMul (a := 20) (b := k) (by omega)) ?_
  refine lv_istore (lv' := [(6, .int (nI (20 * k))), (5, .int (yl_lmo (T k))), (0, .ref adB), (1, .ref adW), (2, .ref adN), (3, .int (nI k)), (4, .int (2 : Int32))]) hx hb dL_modes_11 hl (by decide) rfl (fun ls hl => ?_)
  refine lv_iload hx hb dL_modes_13 (lv_at hl 1 rfl) ?_
  refine lv_iconst (v := 3) hx hb dL_modes_15 (by decide) ?_
  refine lv_icmp_ne (tgt := 24) hx hb dL_modes_16 (by decide) (fun h3 => ?_) (fun h3 => ?_)
  · skip
    refine lv_iload hx hb dL_modes_24 (lv_at hl 6 rfl) ?_
    refine lv_iconst (v := 2) hx hb dL_modes_26 (by decide) ?_
    refine lv_icmp_ne (tgt := 44) hx hb dL_modes_27 (by decide) (fun h9 => absurd h9 (by decide)) (fun _ => ?_)
    refine lv_aload_n hx hb dL_modes_30 rfl (lv_at hl 3 rfl) ?_
    refine lv_iload hx hb dL_modes_31 (lv_at hl 0 rfl) ?_
    refine lv_bipush (v := 9) hx hb dL_modes_33 (by decide) ?_
    refine lv_iadd hx hb dL_modes_35 ?_
    refine hh_seti (y := (nI (20 * k + 9))) (lwAdd (a := 20 * k) (b := 9) (by omega)) ?_
    refine lr_ll hx hb hK hP 0 1 (e0 := 20 * k + 9) rfl rfl (by omega) (by decide) dL_modes_36 ?_
    refine lv_lconst (v := 0) hx hb dL_modes_37 (by decide) ?_
    refine hh_cne (tgt := 44) hx hb dL_modes_38 dL_modes_39 (by decide) (fun h9 => ?_) (fun h9 => ?_)
    · skip
      refine lv_aload_n hx hb dL_modes_44 rfl (lv_at hl 2 rfl) ?_
      refine lv_iload_n hx hb dL_modes_45 rfl (lv_at hl 5 rfl) ?_
      refine lv_iload hx hb dL_modes_46 (lv_at hl 6 rfl) ?_
      refine s_setMode (k := k) (mov := (2 : Int32)) K hk (by decide) (by decide) (md_q6 (Or.inl h3)) (md_q7 (fun _ => md_l9 hR h9)) ⟨Nat.le_of_ble_eq_true rfl, Nat.le_of_ble_eq_true rfl⟩ hcs (Nat.le_of_ble_eq_true rfl) hP hD hS hA hl.1 dL_modes_48 (fun H locs hP hD hS => ?_)
      refine hh_seti (y := (yl_lmo (T k))) (rfl) ?_
      refine lv_iload hx hb dL_modes_51 (lv_at hl 1 rfl) ?_
      refine lv_icmp_ne (tgt := 70) hx hb dL_modes_53 (by decide) (fun h9 => absurd (rfl) h9) (fun _ => ?_)
      refine lv_aload_n hx hb dL_modes_56 rfl (lv_at hl 2 rfl) ?_
      refine lv_iload_n hx hb dL_modes_57 rfl (lv_at hl 5 rfl) ?_
      refine s_mode (k := k)  K hk  ⟨Nat.le_of_ble_eq_true rfl, Nat.le_of_ble_eq_true rfl⟩ hcs (Nat.le_of_ble_eq_true rfl) hP hD hS hA hl.1 dL_modes_58 (fun H locs hP hD hS => ?_)
      refine hh_seti (y := (yl_lmo (lu_setMode (T k) (2 : Int32)))) (by rw [upT_e] <;> rfl) ?_
      refine lv_iload hx hb dL_modes_61 (lv_at hl 6 rfl) ?_
      refine lv_icmp_ne (tgt := 70) hx hb dL_modes_63 (by decide) (fun h9 => absurd (md_lmo _ _) h9) (fun _ => ?_)
      refine lv_iconst (v := 1) hx hb dL_modes_66 (by decide) ?_
      refine lv_goto (tgt := 71) hx hb dL_modes_67 (by decide) ?_
      refine lv_istore (lv' := [(7, .int (1 : Int32)), (6, .int (nI (20 * k))), (5, .int (yl_lmo (T k))), (0, .ref adB), (1, .ref adW), (2, .ref adN), (3, .int (nI k)), (4, .int (2 : Int32))]) hx hb dL_modes_71 hl (by decide) rfl (fun ls hl => ?_)
      refine lv_iload hx hb dL_modes_73 (lv_at hl 2 rfl) ?_
      refine lv_if_ne (tgt := 142) hx hb dL_modes_75 (by decide) (fun h0 => ?_) (fun h0 => ?_)
      · skip
        refine lv_iload hx hb dL_modes_142 (lv_at hl 7 rfl) ?_
        refine lv_if_ne (tgt := 198) hx hb dL_modes_144 (by decide) (fun _ => ?_) (fun h9 => absurd h9 (by decide))
        refine lv_iload hx hb dL_modes_198 (lv_at hl 0 rfl) ?_
        exact hh_retS (w := fun (u : (Nat → Int64) × (Nat → LT)) => ([zAJ cJ adW 60 u.1, zAJ cJ adU 33 fu, zAJ cJ adG 60 fg, zAI cI adN 6 fn] ++ wB cI cJ cO adB adA lf bs a u.2)) ((fw, (upT T k (lu_setMode (T k) (2 : Int32))))) hQ (⟨rfl, SP_mk ((md_same hR h0 h3 (Or.inr rfl) h15 (fun _ => md_l9 hR h9))) (fun _ _ => rfl) (fun _ _ => rfl) (fun _ _ _ => rfl)⟩) (rfl) hx hb hr hlocks hP hK hD hS dL_modes_200
      · skip
        refine lv_iload hx hb dL_modes_78 (lv_at hl 7 rfl) ?_
        refine lv_if_le (tgt := 142) hx hb dL_modes_80 (by decide) (fun h9 => absurd h9 (by decide)) (fun _ => ?_)
        refine lv_aload_n hx hb dL_modes_83 rfl (lv_at hl 4 rfl) ?_
        refine lv_iload hx hb dL_modes_84 (lv_at hl 1 rfl) ?_
        refine lv_bipush (v := 15) hx hb dL_modes_86 (by decide) ?_
        refine lv_iadd hx hb dL_modes_88 ?_
        refine hh_seti (y := (nI (20 * k + 15))) (lwAdd (a := 20 * k) (b := 15) (by omega)) ?_
        refine lv_iload hx hb dL_modes_89 (lv_at hl 7 rfl) ?_
        refine lv_iconst (v := 1) hx hb dL_modes_91 (by decide) ?_
        refine lv_icmp_ne (tgt := 99) hx hb dL_modes_92 (by decide) (fun _ => ?_) (fun h9 => absurd h9 (by decide))
        refine lv_lconst (v := 0) hx hb dL_modes_99 (by decide) ?_
        refine lr_ls hx hb hK hP hD hS 0 1 (e0 := 20 * k + 15) rfl rfl (by omega) (by decide) dL_modes_100 (w1 := ([zAJ cJ adW 60 (vp_updL fw (20 * k + 15) (0 : Int64)), zAJ cJ adU 33 fu, zAJ cJ adG 60 fg, zAI cI adN 6 fn] ++ wB cI cJ cO adB adA lf bs a (upT T k (lu_setMode (T k) (2 : Int32))))) rfl (fun H locs hP hD hS => ?_)
        refine lv_aload_n hx hb dL_modes_101 rfl (lv_at hl 4 rfl) ?_
        refine lv_iload hx hb dL_modes_102 (lv_at hl 1 rfl) ?_
        refine lv_bipush (v := 16) hx hb dL_modes_104 (by decide) ?_
        refine lv_iadd hx hb dL_modes_106 ?_
        refine hh_seti (y := (nI (20 * k + 16))) (lwAdd (a := 20 * k) (b := 16) (by omega)) ?_
        refine lv_aload_n hx hb dL_modes_107 rfl (lv_at hl 3 rfl) ?_
        refine lv_iload_n hx hb dL_modes_108 rfl (lv_at hl 6 rfl) ?_
        refine s_output (k := k)  K hk  ⟨Nat.le_of_ble_eq_true rfl, Nat.le_of_ble_eq_true rfl⟩ hcs (Nat.le_of_ble_eq_true rfl) hP hD hS hA hl.1 dL_modes_109 (fun H locs hP hD hS => ?_)
        refine hh_setl (y := (yl_lou (lu_setMode (T k) (2 : Int32)))) (by rw [upT_e] <;> rfl) ?_
        refine lr_ls hx hb hK hP hD hS 0 1 (e0 := 20 * k + 16) rfl rfl (by omega) (by decide) dL_modes_112 (w1 := ([zAJ cJ adW 60 (vp_updL (vp_updL fw (20 * k + 15) (0 : Int64)) (20 * k + 16) (yl_lou (lu_setMode (T k) (2 : Int32)))), zAJ cJ adU 33 fu, zAJ cJ adG 60 fg, zAI cI adN 6 fn] ++ wB cI cJ cO adB adA lf bs a (upT T k (lu_setMode (T k) (2 : Int32))))) rfl (fun H locs hP hD hS => ?_)
        refine lv_aload_n hx hb dL_modes_113 rfl (lv_at hl 4 rfl) ?_
        refine lv_iload hx hb dL_modes_114 (lv_at hl 1 rfl) ?_
        refine lv_bipush (v := 14) hx hb dL_modes_116 (by decide) ?_
        refine lv_iadd hx hb dL_modes_118 ?_
        refine hh_seti (y := (nI (20 * k + 14))) (lwAdd (a := 20 * k) (b := 14) (by omega)) ?_
        refine lv_lconst (v := 0) hx hb dL_modes_119 (by decide) ?_
        refine lr_ls hx hb hK hP hD hS 0 1 (e0 := 20 * k + 14) rfl rfl (by omega) (by decide) dL_modes_120 (w1 := ([zAJ cJ adW 60 (vp_updL (vp_updL (vp_updL fw (20 * k + 15) (0 : Int64)) (20 * k + 16) (yl_lou (lu_setMode (T k) (2 : Int32)))) (20 * k + 14) (0 : Int64)), zAJ cJ adU 33 fu, zAJ cJ adG 60 fg, zAI cI adN 6 fn] ++ wB cI cJ cO adB adA lf bs a (upT T k (lu_setMode (T k) (2 : Int32))))) rfl (fun H locs hP hD hS => ?_)
        refine lv_iload hx hb dL_modes_121 (lv_at hl 0 rfl) ?_
        refine lv_if_eq (tgt := 139) hx hb dL_modes_123 (by decide) (fun h9 => absurd h9 (by decide)) (fun _ => ?_)
        refine lv_aload_n hx hb dL_modes_126 rfl (lv_at hl 3 rfl) ?_
        refine lv_aload_n hx hb dL_modes_127 rfl (lv_at hl 4 rfl) ?_
        refine lv_iload_n hx hb dL_modes_128 rfl (lv_at hl 6 rfl) ?_
        refine lw_RS (S := Unit) (wl := []) (wr := ([zAJ cJ adW 60 (vp_updL (vp_updL (vp_updL fw (20 * k + 15) (0 : Int64)) (20 * k + 16) (yl_lou (lu_setMode (T k) (2 : Int32)))) (20 * k + 14) (0 : Int64)), zAJ cJ adU 33 fu, zAJ cJ adG 60 fg, zAI cI adN 6 fn] ++ wB cI cJ cO adB adA lf bs a (upT T k (lu_setMode (T k) (2 : Int32))))) (wq := fun u => ([zAJ cJ adW 60 (vp_updL (vp_updL (vp_updL fw (20 * k + 15) (0 : Int64)) (20 * k + 16) (yl_lou (lu_setMode (T k) (2 : Int32)))) (20 * k + 14) (0 : Int64)), zAJ cJ adU 33 fu, zAJ cJ adG 60 fg, zAI cI adN 6 fn] ++ wB cI cJ cO adB adA lf bs a (upT T k (lu_setMode (T k) (2 : Int32))))) (rest := []) (va_runS (As := [.ref adB, .ref adW, .int (nI k)]) (rest := []) ⟨hx, hb, hml, hown, hts⟩ (c_L_isSettled l dC dI cI cJ cZ cO adB adA adW adU adG adN lf a bs (upT T k (lu_setMode (T k) (2 : Int32))) (vp_updL (vp_updL (vp_updL fw (20 * k + 15) (0 : Int64)) (20 * k + 16) (yl_lou (lu_setMode (T k) (2 : Int32)))) (20 * k + 14) (0 : Int64)) fu fg fn k _ hlf hk (by rw [upT_e, ul_ne _ _ (by omega), ul_ne _ _ (by omega), ul_ne _ _ (by omega)]; exact (md_up (m := 2) (v := 0) hR h0 (Or.inr rfl) (Or.inr rfl) (fun _ => md_l9 hR h9)).2)) (va_cwS 3 hts (gd_S wd_3_38 wd_3_39 wd_1_0 wd_3_40) rfl rfl rfl (by decide +kernel) ⟨Nat.le_of_ble_eq_true rfl, Nat.le_of_ble_eq_true rfl⟩) (lw_S2 (wl := []) gN_c (fun U _ hW => gN_w hW hG) hK (List.Perm.refl _) hP hD) rfl rfl hl.1 rfl (lv_room (Nat.le_of_ble_eq_true rfl)) dL_modes_129 hcs) hP hD hS hA (fun r u H locs hpost hP hD hS => ?_)
        subst hpost
        have hP : va_P (dC, dI) vwCl ([zAJ cJ adW 60 (vp_updL (vp_updL (vp_updL fw (20 * k + 15) (0 : Int64)) (20 * k + 16) (yl_lou (lu_setMode (T k) (2 : Int32)))) (20 * k + 14) (0 : Int64)), zAJ cJ adU 33 fu, zAJ cJ adG 60 fg, zAI cI adN 6 fn] ++ wB cI cJ cO adB adA lf bs a (upT T k (lu_setMode (T k) (2 : Int32)))) H := hP
        have hD : va_D A ([zAJ cJ adW 60 (vp_updL (vp_updL (vp_updL fw (20 * k + 15) (0 : Int64)) (20 * k + 16) (yl_lou (lu_setMode (T k) (2 : Int32)))) (20 * k + 14) (0 : Int64)), zAJ cJ adU 33 fu, zAJ cJ adG 60 fg, zAI cI adN 6 fn] ++ wB cI cJ cO adB adA lf bs a (upT T k (lu_setMode (T k) (2 : Int32)))) := hD
        refine lv_if_eq (tgt := 139) hx hb dL_modes_132 (by decide) (fun h9 => absurd h9 (by decide)) (fun _ => ?_)
        refine lv_iconst (v := 1) hx hb dL_modes_135 (by decide) ?_
        refine lv_goto (tgt := 140) hx hb dL_modes_136 (by decide) ?_
        refine lv_istore (lv' := [(7, .int (1 : Int32)), (6, .int (nI (20 * k))), (5, .int (yl_lmo (T k))), (0, .ref adB), (1, .ref adW), (2, .ref adN), (3, .int (nI k)), (4, .int (2 : Int32))]) hx hb dL_modes_140 hl (by decide) rfl (fun ls hl => ?_)
        refine lv_iload hx hb dL_modes_142 (lv_at hl 7 rfl) ?_
        refine lv_if_ne (tgt := 198) hx hb dL_modes_144 (by decide) (fun _ => ?_) (fun h9 => absurd h9 (by decide))
        refine lv_iload hx hb dL_modes_198 (lv_at hl 0 rfl) ?_
        exact hh_retS (w := fun (u : (Nat → Int64) × (Nat → LT)) => ([zAJ cJ adW 60 u.1, zAJ cJ adU 33 fu, zAJ cJ adG 60 fg, zAI cI adN 6 fn] ++ wB cI cJ cO adB adA lf bs a u.2)) (((vp_updL (vp_updL (vp_updL fw (20 * k + 15) (0 : Int64)) (20 * k + 16) (yl_lou (lu_setMode (T k) (2 : Int32)))) (20 * k + 14) (0 : Int64)), (upT T k (lu_setMode (T k) (2 : Int32))))) hQ (⟨rfl, SP_mk ((md_up (m := 2) (v := 0) hR h0 (Or.inr rfl) (Or.inr rfl) (fun _ => md_l9 hR h9)).1) (by intro i hi; (try dsimp only); repeat rw [ul_ne _ _ (by omega)]) (fun _ _ => rfl) (fun _ _ _ => rfl)⟩) (rfl) hx hb hr hlocks hP hK hD hS dL_modes_200
    · skip
      refine lv_iconst (v := 1) hx hb dL_modes_42 (by decide) ?_
      exact hh_retS (w := fun (u : (Nat → Int64) × (Nat → LT)) => ([zAJ cJ adW 60 u.1, zAJ cJ adU 33 fu, zAJ cJ adG 60 fg, zAI cI adN 6 fn] ++ wB cI cJ cO adB adA lf bs a u.2)) ((fw, T)) hQ (⟨rfl, SP_id hR⟩) (rfl) hx hb hr hlocks hP hK hD hS dL_modes_43
  · skip
    refine lv_iload hx hb dL_modes_19 (lv_at hl 6 rfl) ?_
    refine lv_if_ne (tgt := 42) hx hb dL_modes_21 (by decide) (fun _ => ?_) (fun h9 => absurd h9 (by decide))
    refine lv_iconst (v := 1) hx hb dL_modes_42 (by decide) ?_
    exact hh_retS (w := fun (u : (Nat → Int64) × (Nat → LT)) => ([zAJ cJ adW 60 u.1, zAJ cJ adU 33 fu, zAJ cJ adG 60 fg, zAI cI adN 6 fn] ++ wB cI cJ cO adB adA lf bs a u.2)) ((fw, T)) hQ (⟨rfl, SP_id hR⟩) (rfl) hx hb hr hlocks hP hK hD hS dL_modes_43
