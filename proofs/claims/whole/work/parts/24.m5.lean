theorem nz355 {s : Int64} (h : 0 ≤ s ∧ s ≤ 2000000) (h0 : ¬ s = 0) : ¬ (355 : Int64) * s = 0 := by
  obtain ⟨h1, h2⟩ := h
  rw [fa_le64] at h1 h2
  rw [fa_eq64] at h0
  have e0 : (0 : Int64).toInt = 0 := rfl
  have e2 : (2000000 : Int64).toInt = 2000000 := rfl
  have e3 : (355 : Int64).toInt = 355 := rfl
  intro q
  rw [fa_eq64, fb_mulL (by rw [e3]; omega) (by rw [e3]; omega), e3, e0] at q
  omega
theorem nzt {k : Int64} {t : Int32} (h0 : ¬ t = 0) (hk : 0 < k.toInt) (hk2 : k.toInt ≤ 1000) : ¬ k * t.toInt64 = 0 := by
  rw [fa_eq] at h0
  have e0 : (0 : Int32).toInt = 0 := rfl
  have e00 : (0 : Int64).toInt = 0 := rfl
  have h9 := fb_rng t
  have e1 : (t.toInt64).toInt = t.toInt := Int32.toInt_toInt64 t
  have b1 : k.toInt * t.toInt ≤ 1000 * 2147483648 := Int.le_trans (Int.mul_le_mul_of_nonneg_left (show t.toInt ≤ 2147483648 by omega) (by omega)) (Int.mul_le_mul_of_nonneg_right hk2 (by omega))
  have b2 : -(1000 * 2147483648) ≤ k.toInt * t.toInt := by
    have b3 : k.toInt * (-2147483648) ≤ k.toInt * t.toInt := Int.mul_le_mul_of_nonneg_left (by omega) (by omega)
    omega
  intro q
  rw [fa_eq64, fb_mulL (by rw [e1]; omega) (by rw [e1]; omega), e1, e00] at q
  rcases Int.mul_eq_zero.mp q with q | q <;> omega
theorem ix2 {a b : Int32} (ha : a = 0 ∨ a = 1 ∨ a = 2) (hb : b = 0 ∨ b = 1 ∨ b = 2) {P : Int32 → Int32 → Prop} (h : ∀ i, i < 3 → ∀ j, j < 3 → P (nI i) (nI j)) : P a b := by
  rcases ha with rfl | rfl | rfl <;> rcases hb with rfl | rfl | rfl
  · exact h 0 (by decide) 0 (by decide)
  · exact h 0 (by decide) 1 (by decide)
  · exact h 0 (by decide) 2 (by decide)
  · exact h 1 (by decide) 0 (by decide)
  · exact h 1 (by decide) 1 (by decide)
  · exact h 1 (by decide) 2 (by decide)
  · exact h 2 (by decide) 0 (by decide)
  · exact h 2 (by decide) 1 (by decide)
  · exact h 2 (by decide) 2 (by decide)
theorem in02 {v : Int32} (h : ¬ f_X6_isIn_j1_1 v (0 : Int32) (2 : Int32) = (0 : Int32)) : v = 0 ∨ v = 1 ∨ v = 2 := by
  unfold f_X6_isIn_j1_1 at h
  split at h
  · exact absurd rfl h
  · rename_i h1
    split at h
    · exact absurd rfl h
    · rename_i h2
      rw [fa_lt] at h1 h2
      have e0 : (0 : Int32).toInt = 0 := rfl
      have e1 : (1 : Int32).toInt = 1 := rfl
      have e2 : (2 : Int32).toInt = 2 := rfl
      rw [fa_eq, fa_eq, fa_eq]
      omega
def f_X6_gain_j1_1 (lp wh : Int32) : Int32 := if (f_X6_isLoop_j1_1 lp) = (0 : Int32) then (1 : Int32) else (if (f_X6_isIn_j1_1 wh (0 : Int32) (2 : Int32)) = (0 : Int32) then (1 : Int32) else (0 : Int32))
theorem g3_gain {lp wh : Int32} (h : ¬ f_X6_can_j1_1 (f_X6_gain_j1_1 lp wh) = (0 : Int32)) : lp = 0 ∨ lp = 1 ∨ lp = 2 := by
  refine loop3 (fun hl => h ?_)
  unfold f_X6_gain_j1_1
  rw [if_pos hl]
  rfl
theorem f_X6_gain_j1_1_z (lp wh : Int32) : narrow .boolean (.int (f_X6_gain_j1_1 lp wh)) = .int (f_X6_gain_j1_1 lp wh) := by
  unfold f_X6_gain_j1_1
  repeat' split
  all_goals rfl
def f_X6_gain_j2_1 (m_gain : Nat → Int64) (lp wh : Int32) : Int32 := if (f_X6_can_j1_1 (f_X6_gain_j1_1 lp wh)) = (0 : Int32) then (0 : Int32) else (m_gain (((3 : Int32) * lp) + wh).toNatClampNeg).toInt32
theorem g_gain {lp wh : Int32} (h : ¬ f_X6_can_j1_1 (f_X6_gain_j1_1 lp wh) = (0 : Int32)) : (lp = 0 ∨ lp = 1 ∨ lp = 2) ∧ (wh = 0 ∨ wh = 1 ∨ wh = 2) := by
  by_cases h1 : f_X6_isLoop_j1_1 lp = (0 : Int32)
  · exact absurd (by unfold f_X6_gain_j1_1; rw [if_pos h1]; rfl) h
  · by_cases h2 : f_X6_isIn_j1_1 wh (0 : Int32) (2 : Int32) = (0 : Int32)
    · exact absurd (by unfold f_X6_gain_j1_1; rw [if_neg h1, if_pos h2]; rfl) h
    · exact ⟨loop3 h1, in02 h2⟩
set_option maxHeartbeats 4000000 in
set_option maxRecDepth 100000 in
theorem c_X6_gain (l : Launch) (dC : Nat → ClassId) (dI : Nat → Nat → Nat) (cI cJ cZ cO : ClassId) (adM : Nat) (ms_samples : Int32) (q_a1 q_a2 q_b q_deadTime q_load q_measure q_before q_past q_gain q_low q_high q_setpoint q_integral q_guard q_share q_mode q_hand q_follows q_hasMaster q_isStarved q_held q_sum q_lastError q_lastRate q_goesOn q_points q_at q_then q_experiment q_center q_height q_band q_isUp q_gone q_risings q_second q_greatest q_least q_period q_swing : Nat) (ms_thrown : Int32) (m_gain : Nat → Int64) (lp wh : Int32) (sz : Nat)  : Met l yX6_gain (Cond.code yX6_gain cX6_gain 3 (some .int) :: wAll) ({ frames := 1, cells := 0, slots := 0, locals := 22 }) (va_Pc [.ref adM, .int lp, .int wh] (gP (dC, dI) [zX6 adM ms_samples q_a1 q_a2 q_b q_deadTime q_load q_measure q_before q_past q_gain q_low q_high q_setpoint q_integral q_guard q_share q_mode q_hand q_follows q_hasMaster q_isStarved q_held q_sum q_lastError q_lastRate q_goesOn q_points q_at q_then q_experiment q_center q_height q_band q_isUp q_gone q_risings q_second q_greatest q_least q_period q_swing ms_thrown, zAJ cJ q_gain 9 m_gain] (tyG cI cJ cZ cO) sz gU)) (va_Qi (fun r (_ : Unit) => r = (f_X6_gain_j2_1 m_gain lp wh)) (fun _ t => gB (dC, dI) (va_A [zX6 adM ms_samples q_a1 q_a2 q_b q_deadTime q_load q_measure q_before q_past q_gain q_low q_high q_setpoint q_integral q_guard q_share q_mode q_hand q_follows q_hasMaster q_isStarved q_held q_sum q_lastError q_lastRate q_goesOn q_points q_at q_then q_experiment q_center q_height q_band q_isUp q_gone q_risings q_second q_greatest q_least q_period q_swing ms_thrown, zAJ cJ q_gain 9 m_gain] sz) [zX6 adM ms_samples q_a1 q_a2 q_b q_deadTime q_load q_measure q_before q_past q_gain q_low q_high q_setpoint q_integral q_guard q_share q_mode q_hand q_follows q_hasMaster q_isStarved q_held q_sum q_lastError q_lastRate q_goesOn q_points q_at q_then q_experiment q_center q_height q_band q_isUp q_gone q_risings q_second q_greatest q_least q_period q_swing (f_X6_gain_j1_1 lp wh), zAJ cJ q_gain 9 m_gain] (tyG cI cJ cZ cO) t) (va_A [zX6 adM ms_samples q_a1 q_a2 q_b q_deadTime q_load q_measure q_before q_past q_gain q_low q_high q_setpoint q_integral q_guard q_share q_mode q_hand q_follows q_hasMaster q_isStarved q_held q_sum q_lastError q_lastRate q_goesOn q_points q_at q_then q_experiment q_center q_height q_band q_isUp q_gone q_risings q_second q_greatest q_least q_period q_swing ms_thrown, zAJ cJ q_gain 9 m_gain] sz)) 0 0 (va_A [zX6 adM ms_samples q_a1 q_a2 q_b q_deadTime q_load q_measure q_before q_past q_gain q_low q_high q_setpoint q_integral q_guard q_share q_mode q_hand q_follows q_hasMaster q_isStarved q_held q_sum q_lastError q_lastRate q_goesOn q_points q_at q_then q_experiment q_center q_height q_band q_isUp q_gone q_risings q_second q_greatest q_least q_period q_swing ms_thrown, zAJ cJ q_gain 9 m_gain] sz) := by
  refine Met.ofW (cc := cX6_gain) (maxL := 3) (ret := (some .int)) (by decide) rfl ?_
  intro p e s m args below meth c s₁ B hml hv
  obtain ⟨rfl, hsz, hP, hK, hD0, hG⟩ := hv
  have hx := B.exec
  have hb := B.bytes
  have hr := B.returns
  have hts := ht_of B.pre
  have hown : s.vm.findClass RX6 = some m.cls := findClass_of_methodNamed B.named
  have hlocks := B.notSynchronized
  subst hsz
  have hD := hD0.self (sz := s.heap.size)
  generalize hAe : va_A [zX6 adM ms_samples q_a1 q_a2 q_b q_deadTime q_load q_measure q_before q_past q_gain q_low q_high q_setpoint q_integral q_guard q_share q_mode q_hand q_follows q_hasMaster q_isStarved q_held q_sum q_lastError q_lastRate q_goesOn q_points q_at q_then q_experiment q_center q_height q_band q_isUp q_gone q_risings q_second q_greatest q_least q_period q_swing ms_thrown, zAJ cJ q_gain 9 m_gain] s.heap.size = A at hD ⊢
  have hA : ∀ q : Nat, s.heap.size ≤ q → A q := fun q h => by rw [← hAe]; exact Or.inr h
  have hS : va_S A s.heap s.heap [] := va_S.rf
  have hP : va_P (dC, dI) vwCl [zX6 adM ms_samples q_a1 q_a2 q_b q_deadTime q_load q_measure q_before q_past q_gain q_low q_high q_setpoint q_integral q_guard q_share q_mode q_hand q_follows q_hasMaster q_isStarved q_held q_sum q_lastError q_lastRate q_goesOn q_points q_at q_then q_experiment q_center q_height q_band q_isUp q_gone q_risings q_second q_greatest q_least q_period q_swing ms_thrown, zAJ cJ q_gain 9 m_gain] s.heap := hP
  have hl := lv_entry ([.ref adM, .int lp, .int wh]) (n := 3) (Nat.le_of_ble_eq_true rfl)
  rw [lg_entry_eq]
  generalize (lg_sl ([.ref adM, .int lp, .int wh]) ++ List.replicate (3 - (lg_sl ([.ref adM, .int lp, .int wh])).length) Slot.unset).toArray = ls at hl ⊢
  have hl : lv_has ls 3 [(0, .ref adM), (1, .int lp), (2, .int wh)] := hl
  refine hh_name (fun Q hQ => ?_)
  refine lv_aload_n hx hb dX6_gain_0 rfl (lv_at hl 0 rfl) ?_
  refine lv_iload_n hx hb dX6_gain_1 rfl (lv_at hl 1 rfl) ?_
  refine hh_calli (w2 := [zX6 adM ms_samples q_a1 q_a2 q_b q_deadTime q_load q_measure q_before q_past q_gain q_low q_high q_setpoint q_integral q_guard q_share q_mode q_hand q_follows q_hasMaster q_isStarved q_held q_sum q_lastError q_lastRate q_goesOn q_points q_at q_then q_experiment q_center q_height q_band q_isUp q_gone q_risings q_second q_greatest q_least q_period q_swing ms_thrown, zAJ cJ q_gain 9 m_gain]) (va_runS (As := [.int lp]) (rest := [.ref adM]) ⟨hx, hb, hml, hown, hts⟩ (c_X6_isLoop l dC dI cI cJ cZ cO lp _) (va_cwS 1 hts (gd_S wd_4_195 wd_4_196 wd_1_7 wd_4_197) rfl rfl rfl (by decide +kernel) ⟨Nat.le_of_ble_eq_true rfl, Nat.le_of_ble_eq_true rfl⟩) (hh_pS gU_c (fun _ _ _ => trivial) hK hP hD [] rfl rfl) rfl rfl hl.1 rfl (lv_room (Nat.le_of_ble_eq_true rfl)) dX6_gain_2 ⟨Nat.le_of_ble_eq_true rfl, Nat.le_of_ble_eq_true rfl⟩) hP hD hS hA [] [0, 1] [0, 1] rfl rfl rfl (by decide) rfl rfl (fun H locs hP hD hS => ?_)
  have J1 : ∀ (H : Heap) (locs : List Loc) (ls : Array Slot), va_P (dC, dI) vwCl [zX6 adM ms_samples q_a1 q_a2 q_b q_deadTime q_load q_measure q_before q_past q_gain q_low q_high q_setpoint q_integral q_guard q_share q_mode q_hand q_follows q_hasMaster q_isStarved q_held q_sum q_lastError q_lastRate q_goesOn q_points q_at q_then q_experiment q_center q_height q_band q_isUp q_gone q_risings q_second q_greatest q_least q_period q_swing ms_thrown, zAJ cJ q_gain 9 m_gain] H → va_D A [zX6 adM ms_samples q_a1 q_a2 q_b q_deadTime q_load q_measure q_before q_past q_gain q_low q_high q_setpoint q_integral q_guard q_share q_mode q_hand q_follows q_hasMaster q_isStarved q_held q_sum q_lastError q_lastRate q_goesOn q_points q_at q_then q_experiment q_center q_height q_band q_isUp q_gone q_risings q_second q_greatest q_least q_period q_swing ms_thrown, zAJ cJ q_gain 9 m_gain] → va_S A s.heap H locs → lv_has ls 3 [(0, .ref adM), (1, .int lp), (2, .int wh)] → W p l e (headSpec (Cond.code yX6_gain cX6_gain 3 (some .int) :: wAll) ({ frames := 1, cells := 0, slots := 0, locals := 22 })).room s m ([.ref adM, .int lp, .int wh] : List Value).toArray below meth c H locs 0 0 Q (F0 m 22 ls [.int (f_X6_gain_j1_1 lp wh), .ref adM]) := by
    intro H locs ls hP hD hS hl
    refine hh_calli (w2 := [zX6 adM ms_samples q_a1 q_a2 q_b q_deadTime q_load q_measure q_before q_past q_gain q_low q_high q_setpoint q_integral q_guard q_share q_mode q_hand q_follows q_hasMaster q_isStarved q_held q_sum q_lastError q_lastRate q_goesOn q_points q_at q_then q_experiment q_center q_height q_band q_isUp q_gone q_risings q_second q_greatest q_least q_period q_swing (f_X6_gain_j1_1 lp wh), zAJ cJ q_gain 9 m_gain]) (va_runV (As := [.int (f_X6_gain_j1_1 lp wh)]) (rest := []) ⟨hx, hb, hml, hown, hts⟩ (c_X6_can l dC dI cI cJ cZ cO adM ms_samples q_a1 q_a2 q_b q_deadTime q_load q_measure q_before q_past q_gain q_low q_high q_setpoint q_integral q_guard q_share q_mode q_hand q_follows q_hasMaster q_isStarved q_held q_sum q_lastError q_lastRate q_goesOn q_points q_at q_then q_experiment q_center q_height q_band q_isUp q_gone q_risings q_second q_greatest q_least q_period q_swing ms_thrown (f_X6_gain_j1_1 lp wh) _) (cwV 1 hts (gd_V wd_4_198 wd_4_200 wd_p_10 wd_1_7 wd_4_201) rfl rfl rfl (by decide +kernel) ⟨Nat.le_of_ble_eq_true rfl, Nat.le_of_ble_eq_true rfl⟩) (hh_pV (ci := 6) (q := (RX6, TX6, 42)) (q0 := 0) rfl rfl gU_c (fun _ _ _ => trivial) hK hP hD [0] rfl rfl) rfl rfl hl.1 rfl (lv_room (Nat.le_of_ble_eq_true rfl)) dX6_gain_22 ⟨Nat.le_of_ble_eq_true rfl, Nat.le_of_ble_eq_true rfl⟩) hP hD hS hA [0] [1] [1, 0] rfl rfl rfl (by decide) rfl rfl (fun H locs hP hD hS => ?_)
    have J2 : ∀ (H : Heap) (locs : List Loc) (ls : Array Slot), va_P (dC, dI) vwCl [zX6 adM ms_samples q_a1 q_a2 q_b q_deadTime q_load q_measure q_before q_past q_gain q_low q_high q_setpoint q_integral q_guard q_share q_mode q_hand q_follows q_hasMaster q_isStarved q_held q_sum q_lastError q_lastRate q_goesOn q_points q_at q_then q_experiment q_center q_height q_band q_isUp q_gone q_risings q_second q_greatest q_least q_period q_swing (f_X6_gain_j1_1 lp wh), zAJ cJ q_gain 9 m_gain] H → va_D A [zX6 adM ms_samples q_a1 q_a2 q_b q_deadTime q_load q_measure q_before q_past q_gain q_low q_high q_setpoint q_integral q_guard q_share q_mode q_hand q_follows q_hasMaster q_isStarved q_held q_sum q_lastError q_lastRate q_goesOn q_points q_at q_then q_experiment q_center q_height q_band q_isUp q_gone q_risings q_second q_greatest q_least q_period q_swing (f_X6_gain_j1_1 lp wh), zAJ cJ q_gain 9 m_gain] → va_S A s.heap H locs → lv_has ls 3 [(0, .ref adM), (1, .int lp), (2, .int wh)] → W p l e (headSpec (Cond.code yX6_gain cX6_gain 3 (some .int) :: wAll) ({ frames := 1, cells := 0, slots := 0, locals := 22 })).room s m ([.ref adM, .int lp, .int wh] : List Value).toArray below meth c H locs 0 0 Q (F0 m 43 ls [.int (f_X6_gain_j2_1 m_gain lp wh)]) := by
      intro H locs ls hP hD hS hl
      exact hh_reti hQ (rfl) hx hb hr hlocks hP hK hD hS dX6_gain_43
    refine lv_if_eq (tgt := 42) hx hb dX6_gain_25 (by decide) (fun h3 => ?_) (fun h3 => ?_)
    · skip
      refine lv_iconst (v := 0) hx hb dX6_gain_42 (by decide) ?_
      have e4 : (f_X6_gain_j2_1 m_gain lp wh) = (0 : Int32) := if_pos h3
      refine hh_seti (y := (f_X6_gain_j2_1 m_gain lp wh)) (if_pos h3) ?_
      exact J2 _ _ _ (hP) (hD) hS (lv_sub hl [0, 1, 2] rfl)
    · skip
      refine lv_aload_n hx hb dX6_gain_28 rfl (lv_at hl 0 rfl) ?_
      refine va_get (D := (dC, dI)) (ci := 6) (v := .ref q_gain) (C := RX6) (T := TX6) (N := 42) hx hb hts inW_X6 hown hK hP 0 rfl rfl 9 (by decide) (hts _ wd_4_65) (fun _ h9 => h9) rfl dX6_gain_29 ?_
      refine lv_iconst (v := 3) hx hb dX6_gain_32 (by decide) ?_
      refine lv_iload_n hx hb dX6_gain_33 rfl (lv_at hl 1 rfl) ?_
      refine lv_imul hx hb dX6_gain_34 ?_
      refine lv_iload_n hx hb dX6_gain_35 rfl (lv_at hl 2 rfl) ?_
      refine lv_iadd hx hb dX6_gain_36 ?_
      refine va_lald hx hb hK hP 1 1 rfl rfl (i := (((3 : Int32) * lp) + wh)) (ix_d (ix2 (P := fun lp wh => 0 ≤ ((((3 : Int32) * lp) + wh)).toInt ∧ ((((3 : Int32) * lp) + wh)).toInt < 9) (g_gain (by assumption)).1 (g_gain (by assumption)).2 (by decide +kernel))) dX6_gain_37 ?_
      refine lv_l2i hx hb dX6_gain_38 rfl ?_
      refine lv_goto (tgt := 43) hx hb dX6_gain_39 (by decide) ?_
      have e5 : (f_X6_gain_j2_1 m_gain lp wh) = (m_gain (((3 : Int32) * lp) + wh).toNatClampNeg).toInt32 := if_neg h3
      refine hh_seti (y := (f_X6_gain_j2_1 m_gain lp wh)) (if_neg h3) ?_
      exact J2 _ _ _ (hP) (hD) hS (lv_sub hl [0, 1, 2] rfl)
  refine lv_if_eq (tgt := 21) hx hb dX6_gain_5 (by decide) (fun h1 => ?_) (fun h1 => ?_)
  · skip
    refine lv_iconst (v := 1) hx hb dX6_gain_21 (by decide) ?_
    have e6 : (f_X6_gain_j1_1 lp wh) = (1 : Int32) := if_pos h1
    refine hh_seti (y := (f_X6_gain_j1_1 lp wh)) (if_pos h1) ?_
    exact J1 _ _ _ (hP) (hD) hS (lv_sub hl [0, 1, 2] rfl)
  · skip
    refine lv_iload_n hx hb dX6_gain_8 rfl (lv_at hl 2 rfl) ?_
    refine lv_iconst (v := 0) hx hb dX6_gain_9 (by decide) ?_
    refine lv_iconst (v := 2) hx hb dX6_gain_10 (by decide) ?_
    refine hh_calli (w2 := [zX6 adM ms_samples q_a1 q_a2 q_b q_deadTime q_load q_measure q_before q_past q_gain q_low q_high q_setpoint q_integral q_guard q_share q_mode q_hand q_follows q_hasMaster q_isStarved q_held q_sum q_lastError q_lastRate q_goesOn q_points q_at q_then q_experiment q_center q_height q_band q_isUp q_gone q_risings q_second q_greatest q_least q_period q_swing ms_thrown, zAJ cJ q_gain 9 m_gain]) (va_runS (As := [.int wh, .int (0 : Int32), .int (2 : Int32)]) (rest := [.ref adM]) ⟨hx, hb, hml, hown, hts⟩ (c_X6_isIn l dC dI cI cJ cZ cO wh (0 : Int32) (2 : Int32) _) (va_cwS 3 hts (gd_S wd_4_192 wd_4_193 wd_1_7 wd_4_194) rfl rfl rfl (by decide +kernel) ⟨Nat.le_of_ble_eq_true rfl, Nat.le_of_ble_eq_true rfl⟩) (hh_pS gU_c (fun _ _ _ => trivial) hK hP hD [] rfl rfl) rfl rfl hl.1 rfl (lv_room (Nat.le_of_ble_eq_true rfl)) dX6_gain_11 ⟨Nat.le_of_ble_eq_true rfl, Nat.le_of_ble_eq_true rfl⟩) hP hD hS hA [] [0, 1] [0, 1] rfl rfl rfl (by decide) rfl rfl (fun H locs hP hD hS => ?_)
    refine lv_if_eq (tgt := 21) hx hb dX6_gain_14 (by decide) (fun h2 => ?_) (fun h2 => ?_)
    · skip
      refine lv_iconst (v := 1) hx hb dX6_gain_21 (by decide) ?_
      have e7 : (f_X6_gain_j1_1 lp wh) = (1 : Int32) := (if_neg h1).trans (if_pos h2)
      refine hh_seti (y := (f_X6_gain_j1_1 lp wh)) ((if_neg h1).trans (if_pos h2)) ?_
      exact J1 _ _ _ (hP) (hD) hS (lv_sub hl [0, 1, 2] rfl)
    · skip
      refine lv_iconst (v := 0) hx hb dX6_gain_17 (by decide) ?_
      refine lv_goto (tgt := 22) hx hb dX6_gain_18 (by decide) ?_
      have e8 : (f_X6_gain_j1_1 lp wh) = (0 : Int32) := (if_neg h1).trans (if_neg h2)
      refine hh_seti (y := (f_X6_gain_j1_1 lp wh)) ((if_neg h1).trans (if_neg h2)) ?_
      exact J1 _ _ _ (hP) (hD) hS (lv_sub hl [0, 1, 2] rfl)
def f_X6_ultimate_r (m_height : Nat → Int32) (m_swing : Nat → Int64) (n : Int32) : Int64 := (((904000 : Int64) * (m_height n.toNatClampNeg).toInt64) / ((355 : Int64) * (m_swing n.toNatClampNeg)))
set_option maxHeartbeats 4000000 in
set_option maxRecDepth 100000 in
theorem c_X6_ultimate (l : Launch) (dC : Nat → ClassId) (dI : Nat → Nat → Nat) (cI cJ cZ cO : ClassId) (adM : Nat) (ms_samples : Int32) (q_a1 q_a2 q_b q_deadTime q_load q_measure q_before q_past q_gain q_low q_high q_setpoint q_integral q_guard q_share q_mode q_hand q_follows q_hasMaster q_isStarved q_held q_sum q_lastError q_lastRate q_goesOn q_points q_at q_then q_experiment q_center q_height q_band q_isUp q_gone q_risings q_second q_greatest q_least q_period q_swing : Nat) (ms_thrown : Int32) (m_height : Nat → Int32) (m_swing : Nat → Int64) (n : Int32) (sz : Nat) (hn3 : n = 0 ∨ n = 1 ∨ n = 2) (hnz : ¬ (355 : Int64) * (m_swing n.toNatClampNeg) = 0) : Met l yX6_ultimate (Cond.code yX6_ultimate cX6_ultimate 2 (some .long) :: wAll) ({ frames := 0, cells := 0, slots := 0, locals := 0 }) (va_Pc [.ref adM, .int n] (gP (dC, dI) [zX6 adM ms_samples q_a1 q_a2 q_b q_deadTime q_load q_measure q_before q_past q_gain q_low q_high q_setpoint q_integral q_guard q_share q_mode q_hand q_follows q_hasMaster q_isStarved q_held q_sum q_lastError q_lastRate q_goesOn q_points q_at q_then q_experiment q_center q_height q_band q_isUp q_gone q_risings q_second q_greatest q_least q_period q_swing ms_thrown, zAI cI q_height 3 m_height, zAJ cJ q_swing 3 m_swing] (tyG cI cJ cZ cO) sz gU)) (va_Ql (fun r (_ : Unit) => r = (f_X6_ultimate_r m_height m_swing n)) (fun _ t => gB (dC, dI) (va_A [zX6 adM ms_samples q_a1 q_a2 q_b q_deadTime q_load q_measure q_before q_past q_gain q_low q_high q_setpoint q_integral q_guard q_share q_mode q_hand q_follows q_hasMaster q_isStarved q_held q_sum q_lastError q_lastRate q_goesOn q_points q_at q_then q_experiment q_center q_height q_band q_isUp q_gone q_risings q_second q_greatest q_least q_period q_swing ms_thrown, zAI cI q_height 3 m_height, zAJ cJ q_swing 3 m_swing] sz) [zX6 adM ms_samples q_a1 q_a2 q_b q_deadTime q_load q_measure q_before q_past q_gain q_low q_high q_setpoint q_integral q_guard q_share q_mode q_hand q_follows q_hasMaster q_isStarved q_held q_sum q_lastError q_lastRate q_goesOn q_points q_at q_then q_experiment q_center q_height q_band q_isUp q_gone q_risings q_second q_greatest q_least q_period q_swing ms_thrown, zAI cI q_height 3 m_height, zAJ cJ q_swing 3 m_swing] (tyG cI cJ cZ cO) t) (va_A [zX6 adM ms_samples q_a1 q_a2 q_b q_deadTime q_load q_measure q_before q_past q_gain q_low q_high q_setpoint q_integral q_guard q_share q_mode q_hand q_follows q_hasMaster q_isStarved q_held q_sum q_lastError q_lastRate q_goesOn q_points q_at q_then q_experiment q_center q_height q_band q_isUp q_gone q_risings q_second q_greatest q_least q_period q_swing ms_thrown, zAI cI q_height 3 m_height, zAJ cJ q_swing 3 m_swing] sz)) 0 0 (va_A [zX6 adM ms_samples q_a1 q_a2 q_b q_deadTime q_load q_measure q_before q_past q_gain q_low q_high q_setpoint q_integral q_guard q_share q_mode q_hand q_follows q_hasMaster q_isStarved q_held q_sum q_lastError q_lastRate q_goesOn q_points q_at q_then q_experiment q_center q_height q_band q_isUp q_gone q_risings q_second q_greatest q_least q_period q_swing ms_thrown, zAI cI q_height 3 m_height, zAJ cJ q_swing 3 m_swing] sz) := by
  refine Met.ofW (cc := cX6_ultimate) (maxL := 2) (ret := (some .long)) (by decide) rfl ?_
  intro p e s m args below meth c s₁ B hml hv
  obtain ⟨rfl, hsz, hP, hK, hD0, hG⟩ := hv
  have hx := B.exec
  have hb := B.bytes
  have hr := B.returns
  have hts := ht_of B.pre
  have hown : s.vm.findClass RX6 = some m.cls := findClass_of_methodNamed B.named
  have hlocks := B.notSynchronized
  subst hsz
  have hD := hD0.self (sz := s.heap.size)
  generalize hAe : va_A [zX6 adM ms_samples q_a1 q_a2 q_b q_deadTime q_load q_measure q_before q_past q_gain q_low q_high q_setpoint q_integral q_guard q_share q_mode q_hand q_follows q_hasMaster q_isStarved q_held q_sum q_lastError q_lastRate q_goesOn q_points q_at q_then q_experiment q_center q_height q_band q_isUp q_gone q_risings q_second q_greatest q_least q_period q_swing ms_thrown, zAI cI q_height 3 m_height, zAJ cJ q_swing 3 m_swing] s.heap.size = A at hD ⊢
  have hA : ∀ q : Nat, s.heap.size ≤ q → A q := fun q h => by rw [← hAe]; exact Or.inr h
  have hS : va_S A s.heap s.heap [] := va_S.rf
  have hP : va_P (dC, dI) vwCl [zX6 adM ms_samples q_a1 q_a2 q_b q_deadTime q_load q_measure q_before q_past q_gain q_low q_high q_setpoint q_integral q_guard q_share q_mode q_hand q_follows q_hasMaster q_isStarved q_held q_sum q_lastError q_lastRate q_goesOn q_points q_at q_then q_experiment q_center q_height q_band q_isUp q_gone q_risings q_second q_greatest q_least q_period q_swing ms_thrown, zAI cI q_height 3 m_height, zAJ cJ q_swing 3 m_swing] s.heap := hP
  have hl := lv_entry ([.ref adM, .int n]) (n := 2) (Nat.le_of_ble_eq_true rfl)
  rw [lg_entry_eq]
  generalize (lg_sl ([.ref adM, .int n]) ++ List.replicate (2 - (lg_sl ([.ref adM, .int n])).length) Slot.unset).toArray = ls at hl ⊢
  have hl : lv_has ls 2 [(0, .ref adM), (1, .int n)] := hl
  refine hh_name (fun Q hQ => ?_)
  refine lv_ldc2 (v := 904000) hx hb hown (hts _ wd_5_130) dX6_ultimate_0 ?_
  refine lv_aload_n hx hb dX6_ultimate_3 rfl (lv_at hl 0 rfl) ?_
  refine va_get (D := (dC, dI)) (ci := 6) (v := .ref q_height) (C := RX6) (T := TX6) (N := 42) hx hb hts inW_X6 hown hK hP 0 rfl rfl 31 (by decide) (hts _ wd_4_87) (fun _ h9 => h9) rfl dX6_ultimate_4 ?_
  refine lv_iload_n hx hb dX6_ultimate_7 rfl (lv_at hl 1 rfl) ?_
  refine va_iald hx hb hK hP 1 0 rfl rfl (i := n) (ix_of (P := fun n => vp_in n 3) (hn3) (ix_d (by decide)) (ix_d (by decide)) (ix_d (by decide))) dX6_ultimate_8 ?_
  refine lv_i2l hx hb dX6_ultimate_9 rfl ?_
  refine lv_lmul hx hb dX6_ultimate_10 ?_
  refine lv_ldc2 (v := 355) hx hb hown (hts _ wd_5_131) dX6_ultimate_11 ?_
  refine lv_aload_n hx hb dX6_ultimate_14 rfl (lv_at hl 0 rfl) ?_
  refine va_get (D := (dC, dI)) (ci := 6) (v := .ref q_swing) (C := RX6) (T := TX6) (N := 42) hx hb hts inW_X6 hown hK hP 0 rfl rfl 40 (by decide) (hts _ wd_4_96) (fun _ h9 => h9) rfl dX6_ultimate_15 ?_
  refine lv_iload_n hx hb dX6_ultimate_18 rfl (lv_at hl 1 rfl) ?_
  refine va_lald hx hb hK hP 2 1 rfl rfl (i := n) (ix_of (P := fun n => vp_in n 3) (hn3) (ix_d (by decide)) (ix_d (by decide)) (ix_d (by decide))) dX6_ultimate_19 ?_
  refine lv_lmul hx hb dX6_ultimate_20 ?_
  refine lv_ldiv hx hb dX6_ultimate_21 hnz ?_
  exact hh_retl hQ (rfl) hx hb hr hlocks hP hK hD hS dX6_ultimate_22
def f_X6_ultimateGain_j1_1 (m_experiment : Nat → Int32) (m_swing : Nat → Int64) (lp : Int32) : Int32 := if (f_X6_isLoop_j1_1 lp) = (0 : Int32) then (1 : Int32) else (if (m_experiment lp.toNatClampNeg) = (2 : Int32) then (if (m_swing lp.toNatClampNeg) = (0 : Int64) then (2 : Int32) else (0 : Int32)) else (2 : Int32))
theorem g3_ultimateGain {m_experiment : Nat → Int32} {m_swing : Nat → Int64} {lp : Int32} (h : ¬ f_X6_can_j1_1 (f_X6_ultimateGain_j1_1 m_experiment m_swing lp) = (0 : Int32)) : lp = 0 ∨ lp = 1 ∨ lp = 2 := by
  refine loop3 (fun hl => h ?_)
  unfold f_X6_ultimateGain_j1_1
  rw [if_pos hl]
  rfl
def f_X6_ultimateGain_j2_1 (m_experiment m_height : Nat → Int32) (m_swing : Nat → Int64) (lp : Int32) : Int32 := if (f_X6_can_j1_1 (f_X6_ultimateGain_j1_1 m_experiment m_swing lp)) = (0 : Int32) then (0 : Int32) else (f_X6_ultimate_r m_height m_swing lp).toInt32
theorem g_ultimateGain {m_experiment : Nat → Int32} {m_swing : Nat → Int64} {lp : Int32} (h : ¬ f_X6_can_j1_1 (f_X6_ultimateGain_j1_1 m_experiment m_swing lp) = (0 : Int32)) : (lp = 0 ∨ lp = 1 ∨ lp = 2) ∧ ¬ (m_swing lp.toNatClampNeg) = 0 := by
  by_cases h1 : f_X6_isLoop_j1_1 lp = (0 : Int32)
  · exact absurd (by unfold f_X6_ultimateGain_j1_1; rw [if_pos h1]; rfl) h
  · refine ⟨loop3 h1, fun q => h ?_⟩
    unfold f_X6_ultimateGain_j1_1
    rw [if_neg h1, q]
    repeat' split
    all_goals first | rfl | (exfalso; contradiction) | (exfalso; simp_all; done)
set_option maxHeartbeats 4000000 in
set_option maxRecDepth 100000 in
theorem c_X6_ultimateGain (l : Launch) (dC : Nat → ClassId) (dI : Nat → Nat → Nat) (cI cJ cZ cO : ClassId) (adM : Nat) (ms_samples : Int32) (q_a1 q_a2 q_b q_deadTime q_load q_measure q_before q_past q_gain q_low q_high q_setpoint q_integral q_guard q_share q_mode q_hand q_follows q_hasMaster q_isStarved q_held q_sum q_lastError q_lastRate q_goesOn q_points q_at q_then q_experiment q_center q_height q_band q_isUp q_gone q_risings q_second q_greatest q_least q_period q_swing : Nat) (ms_thrown : Int32) (m_experiment m_height : Nat → Int32) (m_swing : Nat → Int64) (lp : Int32) (sz : Nat) (hsr : ∀ k : Nat, k < 3 → 0 ≤ m_swing k ∧ m_swing k ≤ (2000000 : Int64)) : Met l yX6_ultimateGain (Cond.code yX6_ultimateGain cX6_ultimateGain 2 (some .int) :: wAll) ({ frames := 1, cells := 0, slots := 0, locals := 21 }) (va_Pc [.ref adM, .int lp] (gP (dC, dI) [zX6 adM ms_samples q_a1 q_a2 q_b q_deadTime q_load q_measure q_before q_past q_gain q_low q_high q_setpoint q_integral q_guard q_share q_mode q_hand q_follows q_hasMaster q_isStarved q_held q_sum q_lastError q_lastRate q_goesOn q_points q_at q_then q_experiment q_center q_height q_band q_isUp q_gone q_risings q_second q_greatest q_least q_period q_swing ms_thrown, zAI cI q_experiment 3 m_experiment, zAI cI q_height 3 m_height, zAJ cJ q_swing 3 m_swing] (tyG cI cJ cZ cO) sz gU)) (va_Qi (fun r (_ : Unit) => r = (f_X6_ultimateGain_j2_1 m_experiment m_height m_swing lp)) (fun _ t => gB (dC, dI) (va_A [zX6 adM ms_samples q_a1 q_a2 q_b q_deadTime q_load q_measure q_before q_past q_gain q_low q_high q_setpoint q_integral q_guard q_share q_mode q_hand q_follows q_hasMaster q_isStarved q_held q_sum q_lastError q_lastRate q_goesOn q_points q_at q_then q_experiment q_center q_height q_band q_isUp q_gone q_risings q_second q_greatest q_least q_period q_swing ms_thrown, zAI cI q_experiment 3 m_experiment, zAI cI q_height 3 m_height, zAJ cJ q_swing 3 m_swing] sz) [zX6 adM ms_samples q_a1 q_a2 q_b q_deadTime q_load q_measure q_before q_past q_gain q_low q_high q_setpoint q_integral q_guard q_share q_mode q_hand q_follows q_hasMaster q_isStarved q_held q_sum q_lastError q_lastRate q_goesOn q_points q_at q_then q_experiment q_center q_height q_band q_isUp q_gone q_risings q_second q_greatest q_least q_period q_swing (f_X6_ultimateGain_j1_1 m_experiment m_swing lp), zAI cI q_experiment 3 m_experiment, zAI cI q_height 3 m_height, zAJ cJ q_swing 3 m_swing] (tyG cI cJ cZ cO) t) (va_A [zX6 adM ms_samples q_a1 q_a2 q_b q_deadTime q_load q_measure q_before q_past q_gain q_low q_high q_setpoint q_integral q_guard q_share q_mode q_hand q_follows q_hasMaster q_isStarved q_held q_sum q_lastError q_lastRate q_goesOn q_points q_at q_then q_experiment q_center q_height q_band q_isUp q_gone q_risings q_second q_greatest q_least q_period q_swing ms_thrown, zAI cI q_experiment 3 m_experiment, zAI cI q_height 3 m_height, zAJ cJ q_swing 3 m_swing] sz)) 0 0 (va_A [zX6 adM ms_samples q_a1 q_a2 q_b q_deadTime q_load q_measure q_before q_past q_gain q_low q_high q_setpoint q_integral q_guard q_share q_mode q_hand q_follows q_hasMaster q_isStarved q_held q_sum q_lastError q_lastRate q_goesOn q_points q_at q_then q_experiment q_center q_height q_band q_isUp q_gone q_risings q_second q_greatest q_least q_period q_swing ms_thrown, zAI cI q_experiment 3 m_experiment, zAI cI q_height 3 m_height, zAJ cJ q_swing 3 m_swing] sz) := by
  refine Met.ofW (cc := cX6_ultimateGain) (maxL := 2) (ret := (some .int)) (by decide) rfl ?_
  intro p e s m args below meth c s₁ B hml hv
  obtain ⟨rfl, hsz, hP, hK, hD0, hG⟩ := hv
  have hx := B.exec
  have hb := B.bytes
  have hr := B.returns
  have hts := ht_of B.pre
  have hown : s.vm.findClass RX6 = some m.cls := findClass_of_methodNamed B.named
  have hlocks := B.notSynchronized
  subst hsz
  have hD := hD0.self (sz := s.heap.size)
  generalize hAe : va_A [zX6 adM ms_samples q_a1 q_a2 q_b q_deadTime q_load q_measure q_before q_past q_gain q_low q_high q_setpoint q_integral q_guard q_share q_mode q_hand q_follows q_hasMaster q_isStarved q_held q_sum q_lastError q_lastRate q_goesOn q_points q_at q_then q_experiment q_center q_height q_band q_isUp q_gone q_risings q_second q_greatest q_least q_period q_swing ms_thrown, zAI cI q_experiment 3 m_experiment, zAI cI q_height 3 m_height, zAJ cJ q_swing 3 m_swing] s.heap.size = A at hD ⊢
  have hA : ∀ q : Nat, s.heap.size ≤ q → A q := fun q h => by rw [← hAe]; exact Or.inr h
  have hS : va_S A s.heap s.heap [] := va_S.rf
  have hP : va_P (dC, dI) vwCl [zX6 adM ms_samples q_a1 q_a2 q_b q_deadTime q_load q_measure q_before q_past q_gain q_low q_high q_setpoint q_integral q_guard q_share q_mode q_hand q_follows q_hasMaster q_isStarved q_held q_sum q_lastError q_lastRate q_goesOn q_points q_at q_then q_experiment q_center q_height q_band q_isUp q_gone q_risings q_second q_greatest q_least q_period q_swing ms_thrown, zAI cI q_experiment 3 m_experiment, zAI cI q_height 3 m_height, zAJ cJ q_swing 3 m_swing] s.heap := hP
  have hl := lv_entry ([.ref adM, .int lp]) (n := 2) (Nat.le_of_ble_eq_true rfl)
  rw [lg_entry_eq]
  generalize (lg_sl ([.ref adM, .int lp]) ++ List.replicate (2 - (lg_sl ([.ref adM, .int lp])).length) Slot.unset).toArray = ls at hl ⊢
  have hl : lv_has ls 2 [(0, .ref adM), (1, .int lp)] := hl
  refine hh_name (fun Q hQ => ?_)
  refine lv_aload_n hx hb dX6_ultimateGain_0 rfl (lv_at hl 0 rfl) ?_
  refine lv_iload_n hx hb dX6_ultimateGain_1 rfl (lv_at hl 1 rfl) ?_
  refine hh_calli (w2 := [zX6 adM ms_samples q_a1 q_a2 q_b q_deadTime q_load q_measure q_before q_past q_gain q_low q_high q_setpoint q_integral q_guard q_share q_mode q_hand q_follows q_hasMaster q_isStarved q_held q_sum q_lastError q_lastRate q_goesOn q_points q_at q_then q_experiment q_center q_height q_band q_isUp q_gone q_risings q_second q_greatest q_least q_period q_swing ms_thrown, zAI cI q_experiment 3 m_experiment, zAI cI q_height 3 m_height, zAJ cJ q_swing 3 m_swing]) (va_runS (As := [.int lp]) (rest := [.ref adM]) ⟨hx, hb, hml, hown, hts⟩ (c_X6_isLoop l dC dI cI cJ cZ cO lp _) (va_cwS 1 hts (gd_S wd_4_195 wd_4_196 wd_1_7 wd_4_197) rfl rfl rfl (by decide +kernel) ⟨Nat.le_of_ble_eq_true rfl, Nat.le_of_ble_eq_true rfl⟩) (hh_pS gU_c (fun _ _ _ => trivial) hK hP hD [] rfl rfl) rfl rfl hl.1 rfl (lv_room (Nat.le_of_ble_eq_true rfl)) dX6_ultimateGain_2 ⟨Nat.le_of_ble_eq_true rfl, Nat.le_of_ble_eq_true rfl⟩) hP hD hS hA [] [0, 1, 2, 3] [0, 1, 2, 3] rfl rfl rfl (by decide) rfl rfl (fun H locs hP hD hS => ?_)
  have J1 : ∀ (H : Heap) (locs : List Loc) (ls : Array Slot), va_P (dC, dI) vwCl [zX6 adM ms_samples q_a1 q_a2 q_b q_deadTime q_load q_measure q_before q_past q_gain q_low q_high q_setpoint q_integral q_guard q_share q_mode q_hand q_follows q_hasMaster q_isStarved q_held q_sum q_lastError q_lastRate q_goesOn q_points q_at q_then q_experiment q_center q_height q_band q_isUp q_gone q_risings q_second q_greatest q_least q_period q_swing ms_thrown, zAI cI q_experiment 3 m_experiment, zAI cI q_height 3 m_height, zAJ cJ q_swing 3 m_swing] H → va_D A [zX6 adM ms_samples q_a1 q_a2 q_b q_deadTime q_load q_measure q_before q_past q_gain q_low q_high q_setpoint q_integral q_guard q_share q_mode q_hand q_follows q_hasMaster q_isStarved q_held q_sum q_lastError q_lastRate q_goesOn q_points q_at q_then q_experiment q_center q_height q_band q_isUp q_gone q_risings q_second q_greatest q_least q_period q_swing ms_thrown, zAI cI q_experiment 3 m_experiment, zAI cI q_height 3 m_height, zAJ cJ q_swing 3 m_swing] → va_S A s.heap H locs → lv_has ls 2 [(0, .ref adM), (1, .int lp)] → W p l e (headSpec (Cond.code yX6_ultimateGain cX6_ultimateGain 2 (some .int) :: wAll) ({ frames := 1, cells := 0, slots := 0, locals := 21 })).room s m ([.ref adM, .int lp] : List Value).toArray below meth c H locs 0 0 Q (F0 m 38 ls [.int (f_X6_ultimateGain_j1_1 m_experiment m_swing lp), .ref adM]) := by
    intro H locs ls hP hD hS hl
    refine hh_calli (w2 := [zX6 adM ms_samples q_a1 q_a2 q_b q_deadTime q_load q_measure q_before q_past q_gain q_low q_high q_setpoint q_integral q_guard q_share q_mode q_hand q_follows q_hasMaster q_isStarved q_held q_sum q_lastError q_lastRate q_goesOn q_points q_at q_then q_experiment q_center q_height q_band q_isUp q_gone q_risings q_second q_greatest q_least q_period q_swing (f_X6_ultimateGain_j1_1 m_experiment m_swing lp), zAI cI q_experiment 3 m_experiment, zAI cI q_height 3 m_height, zAJ cJ q_swing 3 m_swing]) (va_runV (As := [.int (f_X6_ultimateGain_j1_1 m_experiment m_swing lp)]) (rest := []) ⟨hx, hb, hml, hown, hts⟩ (c_X6_can l dC dI cI cJ cZ cO adM ms_samples q_a1 q_a2 q_b q_deadTime q_load q_measure q_before q_past q_gain q_low q_high q_setpoint q_integral q_guard q_share q_mode q_hand q_follows q_hasMaster q_isStarved q_held q_sum q_lastError q_lastRate q_goesOn q_points q_at q_then q_experiment q_center q_height q_band q_isUp q_gone q_risings q_second q_greatest q_least q_period q_swing ms_thrown (f_X6_ultimateGain_j1_1 m_experiment m_swing lp) _) (cwV 1 hts (gd_V wd_4_198 wd_4_200 wd_p_10 wd_1_7 wd_4_201) rfl rfl rfl (by decide +kernel) ⟨Nat.le_of_ble_eq_true rfl, Nat.le_of_ble_eq_true rfl⟩) (hh_pV (ci := 6) (q := (RX6, TX6, 42)) (q0 := 0) rfl rfl gU_c (fun _ _ _ => trivial) hK hP hD [0] rfl rfl) rfl rfl hl.1 rfl (lv_room (Nat.le_of_ble_eq_true rfl)) dX6_ultimateGain_38 ⟨Nat.le_of_ble_eq_true rfl, Nat.le_of_ble_eq_true rfl⟩) hP hD hS hA [0] [1, 2, 3] [3, 0, 1, 2] rfl rfl rfl (by decide) rfl rfl (fun H locs hP hD hS => ?_)
    have J2 : ∀ (H : Heap) (locs : List Loc) (ls : Array Slot), va_P (dC, dI) vwCl [zX6 adM ms_samples q_a1 q_a2 q_b q_deadTime q_load q_measure q_before q_past q_gain q_low q_high q_setpoint q_integral q_guard q_share q_mode q_hand q_follows q_hasMaster q_isStarved q_held q_sum q_lastError q_lastRate q_goesOn q_points q_at q_then q_experiment q_center q_height q_band q_isUp q_gone q_risings q_second q_greatest q_least q_period q_swing (f_X6_ultimateGain_j1_1 m_experiment m_swing lp), zAI cI q_experiment 3 m_experiment, zAI cI q_height 3 m_height, zAJ cJ q_swing 3 m_swing] H → va_D A [zX6 adM ms_samples q_a1 q_a2 q_b q_deadTime q_load q_measure q_before q_past q_gain q_low q_high q_setpoint q_integral q_guard q_share q_mode q_hand q_follows q_hasMaster q_isStarved q_held q_sum q_lastError q_lastRate q_goesOn q_points q_at q_then q_experiment q_center q_height q_band q_isUp q_gone q_risings q_second q_greatest q_least q_period q_swing (f_X6_ultimateGain_j1_1 m_experiment m_swing lp), zAI cI q_experiment 3 m_experiment, zAI cI q_height 3 m_height, zAJ cJ q_swing 3 m_swing] → va_S A s.heap H locs → lv_has ls 2 [(0, .ref adM), (1, .int lp)] → W p l e (headSpec (Cond.code yX6_ultimateGain cX6_ultimateGain 2 (some .int) :: wAll) ({ frames := 1, cells := 0, slots := 0, locals := 21 })).room s m ([.ref adM, .int lp] : List Value).toArray below meth c H locs 0 0 Q (F0 m 54 ls [.int (f_X6_ultimateGain_j2_1 m_experiment m_height m_swing lp)]) := by
      intro H locs ls hP hD hS hl
      exact hh_reti hQ (rfl) hx hb hr hlocks hP hK hD hS dX6_ultimateGain_54
    refine lv_if_eq (tgt := 53) hx hb dX6_ultimateGain_41 (by decide) (fun h4 => ?_) (fun h4 => ?_)
    · skip
      refine lv_iconst (v := 0) hx hb dX6_ultimateGain_53 (by decide) ?_
      have e5 : (f_X6_ultimateGain_j2_1 m_experiment m_height m_swing lp) = (0 : Int32) := if_pos h4
      refine hh_seti (y := (f_X6_ultimateGain_j2_1 m_experiment m_height m_swing lp)) (if_pos h4) ?_
      exact J2 _ _ _ (hP) (hD) hS (lv_sub hl [0, 1] rfl)
    · skip
      refine lv_aload_n hx hb dX6_ultimateGain_44 rfl (lv_at hl 0 rfl) ?_
      refine lv_iload_n hx hb dX6_ultimateGain_45 rfl (lv_at hl 1 rfl) ?_
      refine hh_calll (w2 := [zX6 adM ms_samples q_a1 q_a2 q_b q_deadTime q_load q_measure q_before q_past q_gain q_low q_high q_setpoint q_integral q_guard q_share q_mode q_hand q_follows q_hasMaster q_isStarved q_held q_sum q_lastError q_lastRate q_goesOn q_points q_at q_then q_experiment q_center q_height q_band q_isUp q_gone q_risings q_second q_greatest q_least q_period q_swing (f_X6_ultimateGain_j1_1 m_experiment m_swing lp), zAI cI q_experiment 3 m_experiment, zAI cI q_height 3 m_height, zAJ cJ q_swing 3 m_swing]) (va_runV (As := [.int lp]) (rest := []) ⟨hx, hb, hml, hown, hts⟩ (c_X6_ultimate l dC dI cI cJ cZ cO adM ms_samples q_a1 q_a2 q_b q_deadTime q_load q_measure q_before q_past q_gain q_low q_high q_setpoint q_integral q_guard q_share q_mode q_hand q_follows q_hasMaster q_isStarved q_held q_sum q_lastError q_lastRate q_goesOn q_points q_at q_then q_experiment q_center q_height q_band q_isUp q_gone q_risings q_second q_greatest q_least q_period q_swing (f_X6_ultimateGain_j1_1 m_experiment m_swing lp) m_height m_swing lp _ (g_ultimateGain (by assumption)).1 (nz355 (hsr _ (tn3 (g_ultimateGain (by assumption)).1)) (g_ultimateGain (by assumption)).2)) (cwV 1 hts (gd_V wd_5_126 wd_5_128 wd_p_24 wd_1_7 wd_5_129) rfl rfl rfl (by decide +kernel) ⟨Nat.le_of_ble_eq_true rfl, Nat.le_of_ble_eq_true rfl⟩) (hh_pV (ci := 6) (q := (RX6, TX6, 42)) (q0 := 0) rfl rfl gU_c (fun _ _ _ => trivial) hK hP hD [0, 2, 3] rfl rfl) rfl rfl hl.1 rfl (lv_room (Nat.le_of_ble_eq_true rfl)) dX6_ultimateGain_46 ⟨Nat.le_of_ble_eq_true rfl, Nat.le_of_ble_eq_true rfl⟩) hP hD hS hA [0, 2, 3] [1] [1, 0, 2, 3] rfl rfl rfl (by decide) rfl rfl (fun H locs hP hD hS => ?_)
      refine lv_l2i hx hb dX6_ultimateGain_49 rfl ?_
      refine lv_goto (tgt := 54) hx hb dX6_ultimateGain_50 (by decide) ?_
      have e6 : (f_X6_ultimateGain_j2_1 m_experiment m_height m_swing lp) = (f_X6_ultimate_r m_height m_swing lp).toInt32 := if_neg h4
      refine hh_seti (y := (f_X6_ultimateGain_j2_1 m_experiment m_height m_swing lp)) (if_neg h4) ?_
      exact J2 _ _ _ (hP) (hD) hS (lv_sub hl [0, 1] rfl)
  refine lv_if_ne (tgt := 12) hx hb dX6_ultimateGain_5 (by decide) (fun h1 => ?_) (fun h1 => ?_)
  · skip
    refine lv_aload_n hx hb dX6_ultimateGain_12 rfl (lv_at hl 0 rfl) ?_
    refine va_get (D := (dC, dI)) (ci := 6) (v := .ref q_experiment) (C := RX6) (T := TX6) (N := 42) hx hb hts inW_X6 hown hK hP 0 rfl rfl 29 (by decide) (hts _ wd_4_85) (fun _ h9 => h9) rfl dX6_ultimateGain_13 ?_
    refine lv_iload_n hx hb dX6_ultimateGain_16 rfl (lv_at hl 1 rfl) ?_
    refine va_iald hx hb hK hP 1 0 rfl rfl (i := lp) (ix_of (P := fun lp => vp_in lp 3) (by first | exact loop3 (by assumption) | exact g3_ultimateGain (by assumption)) (ix_d (by decide)) (ix_d (by decide)) (ix_d (by decide))) dX6_ultimateGain_17 ?_
    refine lv_iconst (v := 2) hx hb dX6_ultimateGain_18 (by decide) ?_
    refine lv_icmp_ne (tgt := 33) hx hb dX6_ultimateGain_19 (by decide) (fun h2 => ?_) (fun h2 => ?_)
    · skip
      refine lv_iconst (v := 2) hx hb dX6_ultimateGain_33 (by decide) ?_
      refine lv_goto (tgt := 38) hx hb dX6_ultimateGain_34 (by decide) ?_
      have e7 : (f_X6_ultimateGain_j1_1 m_experiment m_swing lp) = (2 : Int32) := (if_neg h1).trans (if_neg h2)
      refine hh_seti (y := (f_X6_ultimateGain_j1_1 m_experiment m_swing lp)) ((if_neg h1).trans (if_neg h2)) ?_
      exact J1 _ _ _ (hP) (hD) hS (lv_sub hl [0, 1] rfl)
    · skip
      refine lv_aload_n hx hb dX6_ultimateGain_22 rfl (lv_at hl 0 rfl) ?_
      refine va_get (D := (dC, dI)) (ci := 6) (v := .ref q_swing) (C := RX6) (T := TX6) (N := 42) hx hb hts inW_X6 hown hK hP 0 rfl rfl 40 (by decide) (hts _ wd_4_96) (fun _ h9 => h9) rfl dX6_ultimateGain_23 ?_
      refine lv_iload_n hx hb dX6_ultimateGain_26 rfl (lv_at hl 1 rfl) ?_
      refine va_lald hx hb hK hP 3 1 rfl rfl (i := lp) (ix_of (P := fun lp => vp_in lp 3) (by first | exact loop3 (by assumption) | exact g3_ultimateGain (by assumption)) (ix_d (by decide)) (ix_d (by decide)) (ix_d (by decide))) dX6_ultimateGain_27 ?_
      refine lv_lconst (v := 0) hx hb dX6_ultimateGain_28 (by decide) ?_
      refine hh_cne (tgt := 37) hx hb dX6_ultimateGain_29 dX6_ultimateGain_30 (by decide) (fun h3 => ?_) (fun h3 => ?_)
      · skip
        refine lv_iconst (v := 0) hx hb dX6_ultimateGain_37 (by decide) ?_
        have e8 : (f_X6_ultimateGain_j1_1 m_experiment m_swing lp) = (0 : Int32) := (if_neg h1).trans ((if_pos h2).trans (if_neg h3))
        refine hh_seti (y := (f_X6_ultimateGain_j1_1 m_experiment m_swing lp)) ((if_neg h1).trans ((if_pos h2).trans (if_neg h3))) ?_
        exact J1 _ _ _ (hP) (hD) hS (lv_sub hl [0, 1] rfl)
      · skip
        refine lv_iconst (v := 2) hx hb dX6_ultimateGain_33 (by decide) ?_
        refine lv_goto (tgt := 38) hx hb dX6_ultimateGain_34 (by decide) ?_
        have e9 : (f_X6_ultimateGain_j1_1 m_experiment m_swing lp) = (2 : Int32) := (if_neg h1).trans ((if_pos h2).trans (if_pos h3))
        refine hh_seti (y := (f_X6_ultimateGain_j1_1 m_experiment m_swing lp)) ((if_neg h1).trans ((if_pos h2).trans (if_pos h3))) ?_
        exact J1 _ _ _ (hP) (hD) hS (lv_sub hl [0, 1] rfl)
  · skip
    refine lv_iconst (v := 1) hx hb dX6_ultimateGain_8 (by decide) ?_
    refine lv_goto (tgt := 38) hx hb dX6_ultimateGain_9 (by decide) ?_
    have e10 : (f_X6_ultimateGain_j1_1 m_experiment m_swing lp) = (1 : Int32) := if_pos h1
    refine hh_seti (y := (f_X6_ultimateGain_j1_1 m_experiment m_swing lp)) (if_pos h1) ?_
    exact J1 _ _ _ (hP) (hD) hS (lv_sub hl [0, 1] rfl)
def f_X6_proposed_j1_1 (m_experiment m_period : Nat → Int32) (m_swing : Nat → Int64) (lp ruv wh : Int32) : Int32 := if (f_X6_isLoop_j1_1 lp) = (0 : Int32) then (1 : Int32) else (if (f_X6_isIn_j1_1 wh (0 : Int32) (2 : Int32)) = (0 : Int32) then (1 : Int32) else (if (f_X6_isIn_j1_1 ruv (0 : Int32) (1 : Int32)) = (0 : Int32) then (2 : Int32) else (if (m_experiment lp.toNatClampNeg) = (2 : Int32) then (if (m_swing lp.toNatClampNeg) = (0 : Int64) then (3 : Int32) else (if (m_period lp.toNatClampNeg) = (0 : Int32) then (3 : Int32) else (0 : Int32))) else (3 : Int32))))
theorem g3_proposed {m_experiment m_period : Nat → Int32} {m_swing : Nat → Int64} {lp ruv wh : Int32} (h : ¬ f_X6_can_j1_1 (f_X6_proposed_j1_1 m_experiment m_period m_swing lp ruv wh) = (0 : Int32)) : lp = 0 ∨ lp = 1 ∨ lp = 2 := by
  refine loop3 (fun hl => h ?_)
  unfold f_X6_proposed_j1_1
  rw [if_pos hl]
  rfl
def f_X6_proposed_j2_1 (m_height m_period : Nat → Int32) (m_swing : Nat → Int64) (lp ruv : Int32) : Int64 := if ruv = (0 : Int32) then ((((3 : Int64) * (f_X6_ultimate_r m_height m_swing lp)) * (m_period lp.toNatClampNeg).toInt64) / (40 : Int64)) else ((((100 : Int64) * (f_X6_ultimate_r m_height m_swing lp)) * (m_period lp.toNatClampNeg).toInt64) / (1386 : Int64))
def f_X6_proposed_j3_1 (m_height m_period : Nat → Int32) (m_swing : Nat → Int64) (lp ruv : Int32) : Int64 := if ruv = (0 : Int32) then (((12 : Int64) * (f_X6_ultimate_r m_height m_swing lp)) / ((10 : Int64) * (m_period lp.toNatClampNeg).toInt64)) else (((100 : Int64) * (f_X6_ultimate_r m_height m_swing lp)) / ((484 : Int64) * (m_period lp.toNatClampNeg).toInt64))
def f_X6_proposed_j4_1 (m_height : Nat → Int32) (m_swing : Nat → Int64) (lp ruv : Int32) : Int64 := if ruv = (0 : Int32) then (((6 : Int64) * (f_X6_ultimate_r m_height m_swing lp)) / (10 : Int64)) else (((10 : Int64) * (f_X6_ultimate_r m_height m_swing lp)) / (22 : Int64))
def f_X6_proposed_r (m_experiment m_height m_period : Nat → Int32) (m_swing : Nat → Int64) (lp ruv wh : Int32) : Int32 := if (f_X6_can_j1_1 (f_X6_proposed_j1_1 m_experiment m_period m_swing lp ruv wh)) = (0 : Int32) then (0 : Int32) else (if wh = (0 : Int32) then (f_X6_within_j1_1 (f_X6_proposed_j4_1 m_height m_swing lp ruv) (0 : Int64) (20000 : Int64)).toInt32 else (if wh = (1 : Int32) then (f_X6_within_j1_1 (f_X6_proposed_j3_1 m_height m_period m_swing lp ruv) (0 : Int64) (5000 : Int64)).toInt32 else (f_X6_within_j1_1 (f_X6_proposed_j2_1 m_height m_period m_swing lp ruv) (0 : Int64) (50000 : Int64)).toInt32))
theorem g_proposed {m_experiment m_period : Nat → Int32} {m_swing : Nat → Int64} {lp ruv wh : Int32} (h : ¬ f_X6_can_j1_1 (f_X6_proposed_j1_1 m_experiment m_period m_swing lp ruv wh) = (0 : Int32)) : (lp = 0 ∨ lp = 1 ∨ lp = 2) ∧ ¬ (m_swing lp.toNatClampNeg) = 0 ∧ ¬ (m_period lp.toNatClampNeg) = 0 := by
  by_cases h1 : f_X6_isLoop_j1_1 lp = (0 : Int32)
  · exact absurd (by unfold f_X6_proposed_j1_1; rw [if_pos h1]; rfl) h
  · refine ⟨loop3 h1, fun q => h ?_, fun q => h ?_⟩
    · unfold f_X6_proposed_j1_1
      rw [if_neg h1, q]
      repeat' split
      all_goals first | rfl | (exfalso; contradiction) | (exfalso; simp_all; done)
    · unfold f_X6_proposed_j1_1
      rw [if_neg h1, q]
      repeat' split
      all_goals first | rfl | (exfalso; contradiction) | (exfalso; simp_all; done)
set_option maxHeartbeats 4000000 in
set_option maxRecDepth 100000 in
theorem c_X6_proposed (l : Launch) (dC : Nat → ClassId) (dI : Nat → Nat → Nat) (cI cJ cZ cO : ClassId) (adM : Nat) (ms_samples : Int32) (q_a1 q_a2 q_b q_deadTime q_load q_measure q_before q_past q_gain q_low q_high q_setpoint q_integral q_guard q_share q_mode q_hand q_follows q_hasMaster q_isStarved q_held q_sum q_lastError q_lastRate q_goesOn q_points q_at q_then q_experiment q_center q_height q_band q_isUp q_gone q_risings q_second q_greatest q_least q_period q_swing : Nat) (ms_thrown : Int32) (m_experiment m_height m_period : Nat → Int32) (m_swing : Nat → Int64) (lp ruv wh : Int32) (sz : Nat) (hsr : ∀ k : Nat, k < 3 → 0 ≤ m_swing k ∧ m_swing k ≤ (2000000 : Int64)) : Met l yX6_proposed (Cond.code yX6_proposed cX6_proposed 8 (some .int) :: wAll) ({ frames := 1, cells := 0, slots := 0, locals := 25 }) (va_Pc [.ref adM, .int lp, .int ruv, .int wh] (gP (dC, dI) [zX6 adM ms_samples q_a1 q_a2 q_b q_deadTime q_load q_measure q_before q_past q_gain q_low q_high q_setpoint q_integral q_guard q_share q_mode q_hand q_follows q_hasMaster q_isStarved q_held q_sum q_lastError q_lastRate q_goesOn q_points q_at q_then q_experiment q_center q_height q_band q_isUp q_gone q_risings q_second q_greatest q_least q_period q_swing ms_thrown, zAI cI q_experiment 3 m_experiment, zAI cI q_height 3 m_height, zAI cI q_period 3 m_period, zAJ cJ q_swing 3 m_swing] (tyG cI cJ cZ cO) sz gU)) (va_Qi (fun r (_ : Unit) => r = (f_X6_proposed_r m_experiment m_height m_period m_swing lp ruv wh)) (fun _ t => gB (dC, dI) (va_A [zX6 adM ms_samples q_a1 q_a2 q_b q_deadTime q_load q_measure q_before q_past q_gain q_low q_high q_setpoint q_integral q_guard q_share q_mode q_hand q_follows q_hasMaster q_isStarved q_held q_sum q_lastError q_lastRate q_goesOn q_points q_at q_then q_experiment q_center q_height q_band q_isUp q_gone q_risings q_second q_greatest q_least q_period q_swing ms_thrown, zAI cI q_experiment 3 m_experiment, zAI cI q_height 3 m_height, zAI cI q_period 3 m_period, zAJ cJ q_swing 3 m_swing] sz) [zX6 adM ms_samples q_a1 q_a2 q_b q_deadTime q_load q_measure q_before q_past q_gain q_low q_high q_setpoint q_integral q_guard q_share q_mode q_hand q_follows q_hasMaster q_isStarved q_held q_sum q_lastError q_lastRate q_goesOn q_points q_at q_then q_experiment q_center q_height q_band q_isUp q_gone q_risings q_second q_greatest q_least q_period q_swing (f_X6_proposed_j1_1 m_experiment m_period m_swing lp ruv wh), zAI cI q_experiment 3 m_experiment, zAI cI q_height 3 m_height, zAI cI q_period 3 m_period, zAJ cJ q_swing 3 m_swing] (tyG cI cJ cZ cO) t) (va_A [zX6 adM ms_samples q_a1 q_a2 q_b q_deadTime q_load q_measure q_before q_past q_gain q_low q_high q_setpoint q_integral q_guard q_share q_mode q_hand q_follows q_hasMaster q_isStarved q_held q_sum q_lastError q_lastRate q_goesOn q_points q_at q_then q_experiment q_center q_height q_band q_isUp q_gone q_risings q_second q_greatest q_least q_period q_swing ms_thrown, zAI cI q_experiment 3 m_experiment, zAI cI q_height 3 m_height, zAI cI q_period 3 m_period, zAJ cJ q_swing 3 m_swing] sz)) 0 0 (va_A [zX6 adM ms_samples q_a1 q_a2 q_b q_deadTime q_load q_measure q_before q_past q_gain q_low q_high q_setpoint q_integral q_guard q_share q_mode q_hand q_follows q_hasMaster q_isStarved q_held q_sum q_lastError q_lastRate q_goesOn q_points q_at q_then q_experiment q_center q_height q_band q_isUp q_gone q_risings q_second q_greatest q_least q_period q_swing ms_thrown, zAI cI q_experiment 3 m_experiment, zAI cI q_height 3 m_height, zAI cI q_period 3 m_period, zAJ cJ q_swing 3 m_swing] sz) := by
  refine Met.ofW (cc := cX6_proposed) (maxL := 8) (ret := (some .int)) (by decide) rfl ?_
  intro p e s m args below meth c s₁ B hml hv
  obtain ⟨rfl, hsz, hP, hK, hD0, hG⟩ := hv
  have hx := B.exec
  have hb := B.bytes
  have hr := B.returns
  have hts := ht_of B.pre
  have hown : s.vm.findClass RX6 = some m.cls := findClass_of_methodNamed B.named
  have hlocks := B.notSynchronized
  subst hsz
  have hD := hD0.self (sz := s.heap.size)
  generalize hAe : va_A [zX6 adM ms_samples q_a1 q_a2 q_b q_deadTime q_load q_measure q_before q_past q_gain q_low q_high q_setpoint q_integral q_guard q_share q_mode q_hand q_follows q_hasMaster q_isStarved q_held q_sum q_lastError q_lastRate q_goesOn q_points q_at q_then q_experiment q_center q_height q_band q_isUp q_gone q_risings q_second q_greatest q_least q_period q_swing ms_thrown, zAI cI q_experiment 3 m_experiment, zAI cI q_height 3 m_height, zAI cI q_period 3 m_period, zAJ cJ q_swing 3 m_swing] s.heap.size = A at hD ⊢
  have hA : ∀ q : Nat, s.heap.size ≤ q → A q := fun q h => by rw [← hAe]; exact Or.inr h
  have hS : va_S A s.heap s.heap [] := va_S.rf
  have hP : va_P (dC, dI) vwCl [zX6 adM ms_samples q_a1 q_a2 q_b q_deadTime q_load q_measure q_before q_past q_gain q_low q_high q_setpoint q_integral q_guard q_share q_mode q_hand q_follows q_hasMaster q_isStarved q_held q_sum q_lastError q_lastRate q_goesOn q_points q_at q_then q_experiment q_center q_height q_band q_isUp q_gone q_risings q_second q_greatest q_least q_period q_swing ms_thrown, zAI cI q_experiment 3 m_experiment, zAI cI q_height 3 m_height, zAI cI q_period 3 m_period, zAJ cJ q_swing 3 m_swing] s.heap := hP
  have hl := lv_entry ([.ref adM, .int lp, .int ruv, .int wh]) (n := 8) (Nat.le_of_ble_eq_true rfl)
  rw [lg_entry_eq]
  generalize (lg_sl ([.ref adM, .int lp, .int ruv, .int wh]) ++ List.replicate (8 - (lg_sl ([.ref adM, .int lp, .int ruv, .int wh])).length) Slot.unset).toArray = ls at hl ⊢
  have hl : lv_has ls 8 [(0, .ref adM), (1, .int lp), (2, .int ruv), (3, .int wh)] := hl
  refine hh_name (fun Q hQ => ?_)
  refine lv_aload_n hx hb dX6_proposed_0 rfl (lv_at hl 0 rfl) ?_
  refine lv_iload_n hx hb dX6_proposed_1 rfl (lv_at hl 1 rfl) ?_
  refine hh_calli (w2 := [zX6 adM ms_samples q_a1 q_a2 q_b q_deadTime q_load q_measure q_before q_past q_gain q_low q_high q_setpoint q_integral q_guard q_share q_mode q_hand q_follows q_hasMaster q_isStarved q_held q_sum q_lastError q_lastRate q_goesOn q_points q_at q_then q_experiment q_center q_height q_band q_isUp q_gone q_risings q_second q_greatest q_least q_period q_swing ms_thrown, zAI cI q_experiment 3 m_experiment, zAI cI q_height 3 m_height, zAI cI q_period 3 m_period, zAJ cJ q_swing 3 m_swing]) (va_runS (As := [.int lp]) (rest := [.ref adM]) ⟨hx, hb, hml, hown, hts⟩ (c_X6_isLoop l dC dI cI cJ cZ cO lp _) (va_cwS 1 hts (gd_S wd_4_195 wd_4_196 wd_1_7 wd_4_197) rfl rfl rfl (by decide +kernel) ⟨Nat.le_of_ble_eq_true rfl, Nat.le_of_ble_eq_true rfl⟩) (hh_pS gU_c (fun _ _ _ => trivial) hK hP hD [] rfl rfl) rfl rfl hl.1 rfl (lv_room (Nat.le_of_ble_eq_true rfl)) dX6_proposed_2 ⟨Nat.le_of_ble_eq_true rfl, Nat.le_of_ble_eq_true rfl⟩) hP hD hS hA [] [0, 1, 2, 3, 4] [0, 1, 2, 3, 4] rfl rfl rfl (by decide) rfl rfl (fun H locs hP hD hS => ?_)
  have J1 : ∀ (H : Heap) (locs : List Loc) (ls : Array Slot), va_P (dC, dI) vwCl [zX6 adM ms_samples q_a1 q_a2 q_b q_deadTime q_load q_measure q_before q_past q_gain q_low q_high q_setpoint q_integral q_guard q_share q_mode q_hand q_follows q_hasMaster q_isStarved q_held q_sum q_lastError q_lastRate q_goesOn q_points q_at q_then q_experiment q_center q_height q_band q_isUp q_gone q_risings q_second q_greatest q_least q_period q_swing ms_thrown, zAI cI q_experiment 3 m_experiment, zAI cI q_height 3 m_height, zAI cI q_period 3 m_period, zAJ cJ q_swing 3 m_swing] H → va_D A [zX6 adM ms_samples q_a1 q_a2 q_b q_deadTime q_load q_measure q_before q_past q_gain q_low q_high q_setpoint q_integral q_guard q_share q_mode q_hand q_follows q_hasMaster q_isStarved q_held q_sum q_lastError q_lastRate q_goesOn q_points q_at q_then q_experiment q_center q_height q_band q_isUp q_gone q_risings q_second q_greatest q_least q_period q_swing ms_thrown, zAI cI q_experiment 3 m_experiment, zAI cI q_height 3 m_height, zAI cI q_period 3 m_period, zAJ cJ q_swing 3 m_swing] → va_S A s.heap H locs → lv_has ls 8 [(0, .ref adM), (1, .int lp), (2, .int ruv), (3, .int wh)] → W p l e (headSpec (Cond.code yX6_proposed cX6_proposed 8 (some .int) :: wAll) ({ frames := 1, cells := 0, slots := 0, locals := 25 })).room s m ([.ref adM, .int lp, .int ruv, .int wh] : List Value).toArray below meth c H locs 0 0 Q (F0 m 69 ls [.int (f_X6_proposed_j1_1 m_experiment m_period m_swing lp ruv wh), .ref adM]) := by
    intro H locs ls hP hD hS hl
    refine hh_calli (w2 := [zX6 adM ms_samples q_a1 q_a2 q_b q_deadTime q_load q_measure q_before q_past q_gain q_low q_high q_setpoint q_integral q_guard q_share q_mode q_hand q_follows q_hasMaster q_isStarved q_held q_sum q_lastError q_lastRate q_goesOn q_points q_at q_then q_experiment q_center q_height q_band q_isUp q_gone q_risings q_second q_greatest q_least q_period q_swing (f_X6_proposed_j1_1 m_experiment m_period m_swing lp ruv wh), zAI cI q_experiment 3 m_experiment, zAI cI q_height 3 m_height, zAI cI q_period 3 m_period, zAJ cJ q_swing 3 m_swing]) (va_runV (As := [.int (f_X6_proposed_j1_1 m_experiment m_period m_swing lp ruv wh)]) (rest := []) ⟨hx, hb, hml, hown, hts⟩ (c_X6_can l dC dI cI cJ cZ cO adM ms_samples q_a1 q_a2 q_b q_deadTime q_load q_measure q_before q_past q_gain q_low q_high q_setpoint q_integral q_guard q_share q_mode q_hand q_follows q_hasMaster q_isStarved q_held q_sum q_lastError q_lastRate q_goesOn q_points q_at q_then q_experiment q_center q_height q_band q_isUp q_gone q_risings q_second q_greatest q_least q_period q_swing ms_thrown (f_X6_proposed_j1_1 m_experiment m_period m_swing lp ruv wh) _) (cwV 1 hts (gd_V wd_4_198 wd_4_200 wd_p_10 wd_1_7 wd_4_201) rfl rfl rfl (by decide +kernel) ⟨Nat.le_of_ble_eq_true rfl, Nat.le_of_ble_eq_true rfl⟩) (hh_pV (ci := 6) (q := (RX6, TX6, 42)) (q0 := 0) rfl rfl gU_c (fun _ _ _ => trivial) hK hP hD [0] rfl rfl) rfl rfl hl.1 rfl (lv_room (Nat.le_of_ble_eq_true rfl)) dX6_proposed_69 ⟨Nat.le_of_ble_eq_true rfl, Nat.le_of_ble_eq_true rfl⟩) hP hD hS hA [0] [1, 2, 3, 4] [4, 0, 1, 2, 3] rfl rfl rfl (by decide) rfl rfl (fun H locs hP hD hS => ?_)
    refine lv_if_ne (tgt := 77) hx hb dX6_proposed_72 (by decide) (fun h7 => ?_) (fun h7 => ?_)
    · skip
      refine lv_aload_n hx hb dX6_proposed_77 rfl (lv_at hl 0 rfl) ?_
      refine lv_iload_n hx hb dX6_proposed_78 rfl (lv_at hl 1 rfl) ?_
      refine hh_calll (w2 := [zX6 adM ms_samples q_a1 q_a2 q_b q_deadTime q_load q_measure q_before q_past q_gain q_low q_high q_setpoint q_integral q_guard q_share q_mode q_hand q_follows q_hasMaster q_isStarved q_held q_sum q_lastError q_lastRate q_goesOn q_points q_at q_then q_experiment q_center q_height q_band q_isUp q_gone q_risings q_second q_greatest q_least q_period q_swing (f_X6_proposed_j1_1 m_experiment m_period m_swing lp ruv wh), zAI cI q_experiment 3 m_experiment, zAI cI q_height 3 m_height, zAI cI q_period 3 m_period, zAJ cJ q_swing 3 m_swing]) (va_runV (As := [.int lp]) (rest := []) ⟨hx, hb, hml, hown, hts⟩ (c_X6_ultimate l dC dI cI cJ cZ cO adM ms_samples q_a1 q_a2 q_b q_deadTime q_load q_measure q_before q_past q_gain q_low q_high q_setpoint q_integral q_guard q_share q_mode q_hand q_follows q_hasMaster q_isStarved q_held q_sum q_lastError q_lastRate q_goesOn q_points q_at q_then q_experiment q_center q_height q_band q_isUp q_gone q_risings q_second q_greatest q_least q_period q_swing (f_X6_proposed_j1_1 m_experiment m_period m_swing lp ruv wh) m_height m_swing lp _ (g_proposed (by assumption)).1 (nz355 (hsr _ (tn3 (g_proposed (by assumption)).1)) (g_proposed (by assumption)).2.1)) (cwV 1 hts (gd_V wd_5_126 wd_5_128 wd_p_24 wd_1_7 wd_5_129) rfl rfl rfl (by decide +kernel) ⟨Nat.le_of_ble_eq_true rfl, Nat.le_of_ble_eq_true rfl⟩) (hh_pV (ci := 6) (q := (RX6, TX6, 42)) (q0 := 0) rfl rfl gU_c (fun _ _ _ => trivial) hK hP hD [0, 2, 4] rfl rfl) rfl rfl hl.1 rfl (lv_room (Nat.le_of_ble_eq_true rfl)) dX6_proposed_79 ⟨Nat.le_of_ble_eq_true rfl, Nat.le_of_ble_eq_true rfl⟩) hP hD hS hA [0, 2, 4] [1, 3] [2, 0, 3, 1, 4] rfl rfl rfl (by decide) rfl rfl (fun H locs hP hD hS => ?_)
      refine lv_lstore (lv' := [(4, .long (f_X6_ultimate_r m_height m_swing lp)), (0, .ref adM), (1, .int lp), (2, .int ruv), (3, .int wh)]) hx hb dX6_proposed_82 hl (by decide) rfl (fun ls hl => ?_)
      refine lv_aload_n hx hb dX6_proposed_84 rfl (lv_at hl 1 rfl) ?_
      refine va_get (D := (dC, dI)) (ci := 6) (v := .ref q_period) (C := RX6) (T := TX6) (N := 42) hx hb hts inW_X6 hown hK hP 0 rfl rfl 39 (by decide) (hts _ wd_4_95) (fun _ h9 => h9) rfl dX6_proposed_85 ?_
      refine lv_iload_n hx hb dX6_proposed_88 rfl (lv_at hl 2 rfl) ?_
      refine va_iald hx hb hK hP 3 0 rfl rfl (i := lp) (ix_of (P := fun lp => vp_in lp 3) (by first | exact loop3 (by assumption) | exact (g_proposed (by assumption)).1) (ix_d (by decide)) (ix_d (by decide)) (ix_d (by decide))) dX6_proposed_89 ?_
      refine lv_i2l hx hb dX6_proposed_90 rfl ?_
      refine lv_lstore (lv' := [(6, .long ((m_period lp.toNatClampNeg).toInt64)), (4, .long (f_X6_ultimate_r m_height m_swing lp)), (0, .ref adM), (1, .int lp), (2, .int ruv), (3, .int wh)]) hx hb dX6_proposed_91 hl (by decide) rfl (fun ls hl => ?_)
      refine lv_iload_n hx hb dX6_proposed_93 rfl (lv_at hl 5 rfl) ?_
      refine lv_if_ne (tgt := 133) hx hb dX6_proposed_94 (by decide) (fun h8 => ?_) (fun h8 => ?_)
      · skip
        refine lv_iload_n hx hb dX6_proposed_133 rfl (lv_at hl 5 rfl) ?_
        refine lv_iconst (v := 1) hx hb dX6_proposed_134 (by decide) ?_
        refine lv_icmp_ne (tgt := 180) hx hb dX6_proposed_135 (by decide) (fun h9 => ?_) (fun h9 => ?_)
        · skip
          refine lv_iload_n hx hb dX6_proposed_180 rfl (lv_at hl 4 rfl) ?_
          have J2 : ∀ (H : Heap) (locs : List Loc) (ls : Array Slot), va_P (dC, dI) vwCl [zX6 adM ms_samples q_a1 q_a2 q_b q_deadTime q_load q_measure q_before q_past q_gain q_low q_high q_setpoint q_integral q_guard q_share q_mode q_hand q_follows q_hasMaster q_isStarved q_held q_sum q_lastError q_lastRate q_goesOn q_points q_at q_then q_experiment q_center q_height q_band q_isUp q_gone q_risings q_second q_greatest q_least q_period q_swing (f_X6_proposed_j1_1 m_experiment m_period m_swing lp ruv wh), zAI cI q_experiment 3 m_experiment, zAI cI q_height 3 m_height, zAI cI q_period 3 m_period, zAJ cJ q_swing 3 m_swing] H → va_D A [zX6 adM ms_samples q_a1 q_a2 q_b q_deadTime q_load q_measure q_before q_past q_gain q_low q_high q_setpoint q_integral q_guard q_share q_mode q_hand q_follows q_hasMaster q_isStarved q_held q_sum q_lastError q_lastRate q_goesOn q_points q_at q_then q_experiment q_center q_height q_band q_isUp q_gone q_risings q_second q_greatest q_least q_period q_swing (f_X6_proposed_j1_1 m_experiment m_period m_swing lp ruv wh), zAI cI q_experiment 3 m_experiment, zAI cI q_height 3 m_height, zAI cI q_period 3 m_period, zAJ cJ q_swing 3 m_swing] → va_S A s.heap H locs → lv_has ls 8 [(6, .long ((m_period lp.toNatClampNeg).toInt64)), (4, .long (f_X6_ultimate_r m_height m_swing lp)), (0, .ref adM), (1, .int lp), (2, .int ruv), (3, .int wh)] → W p l e (headSpec (Cond.code yX6_proposed cX6_proposed 8 (some .int) :: wAll) ({ frames := 1, cells := 0, slots := 0, locals := 25 })).room s m ([.ref adM, .int lp, .int ruv, .int wh] : List Value).toArray below meth c H locs 0 0 Q (F0 m 213 ls [.long (f_X6_proposed_j2_1 m_height m_period m_swing lp ruv)]) := by
            intro H locs ls hP hD hS hl
            refine lv_lconst (v := 0) hx hb dX6_proposed_213 (by decide) ?_
            refine lv_ldc2 (v := 50000) hx hb hown (hts _ wd_5_146) dX6_proposed_214 ?_
            refine hh_calll (w2 := [zX6 adM ms_samples q_a1 q_a2 q_b q_deadTime q_load q_measure q_before q_past q_gain q_low q_high q_setpoint q_integral q_guard q_share q_mode q_hand q_follows q_hasMaster q_isStarved q_held q_sum q_lastError q_lastRate q_goesOn q_points q_at q_then q_experiment q_center q_height q_band q_isUp q_gone q_risings q_second q_greatest q_least q_period q_swing (f_X6_proposed_j1_1 m_experiment m_period m_swing lp ruv wh), zAI cI q_experiment 3 m_experiment, zAI cI q_height 3 m_height, zAI cI q_period 3 m_period, zAJ cJ q_swing 3 m_swing]) (va_runS (As := [.long (f_X6_proposed_j2_1 m_height m_period m_swing lp ruv), .long (0 : Int64), .long (50000 : Int64)]) (rest := []) ⟨hx, hb, hml, hown, hts⟩ (c_X6_within l dC dI cI cJ cZ cO (f_X6_proposed_j2_1 m_height m_period m_swing lp ruv) (0 : Int64) (50000 : Int64) _) (va_cwS 3 hts (gd_S wd_5_37 wd_5_38 wd_1_7 wd_5_39) rfl rfl rfl (by decide +kernel) ⟨Nat.le_of_ble_eq_true rfl, Nat.le_of_ble_eq_true rfl⟩) (hh_pS gU_c (fun _ _ _ => trivial) hK hP hD [] rfl rfl) rfl rfl hl.1 rfl (lv_room (Nat.le_of_ble_eq_true rfl)) dX6_proposed_217 ⟨Nat.le_of_ble_eq_true rfl, Nat.le_of_ble_eq_true rfl⟩) hP hD hS hA [] [0, 1, 2, 3, 4] [0, 1, 2, 3, 4] rfl rfl rfl (by decide) rfl rfl (fun H locs hP hD hS => ?_)
            refine lv_l2i hx hb dX6_proposed_220 rfl ?_
            exact hh_reti hQ (((if_neg h7).trans ((if_neg h8).trans (if_neg h9))).symm) hx hb hr hlocks hP hK hD hS dX6_proposed_221
          refine lv_if_ne (tgt := 200) hx hb dX6_proposed_181 (by decide) (fun h10 => ?_) (fun h10 => ?_)
          · skip
            refine lv_ldc2 (v := 100) hx hb hown (hts _ wd_4_54) dX6_proposed_200 ?_
            refine lv_lload hx hb dX6_proposed_203 (lv_at hl 1 rfl) ?_
            refine lv_lmul hx hb dX6_proposed_205 ?_
            refine lv_lload hx hb dX6_proposed_206 (lv_at hl 0 rfl) ?_
            refine lv_lmul hx hb dX6_proposed_208 ?_
            refine lv_ldc2 (v := 1386) hx hb hown (hts _ wd_5_145) dX6_proposed_209 ?_
            refine lv_ldiv hx hb dX6_proposed_212 (by decide) ?_
            have e13 : (f_X6_proposed_j2_1 m_height m_period m_swing lp ruv) = ((((100 : Int64) * (f_X6_ultimate_r m_height m_swing lp)) * (m_period lp.toNatClampNeg).toInt64) / (1386 : Int64)) := if_neg h10
            refine hh_setl (y := (f_X6_proposed_j2_1 m_height m_period m_swing lp ruv)) (if_neg h10) ?_
            exact J2 _ _ _ (hP) (hD) hS (lv_sub hl [0, 1, 2, 3, 4, 5] rfl)
          · skip
            refine lv_ldc2 (v := 3) hx hb hown (hts _ wd_5_143) dX6_proposed_184 ?_
            refine lv_lload hx hb dX6_proposed_187 (lv_at hl 1 rfl) ?_
            refine lv_lmul hx hb dX6_proposed_189 ?_
            refine lv_lload hx hb dX6_proposed_190 (lv_at hl 0 rfl) ?_
            refine lv_lmul hx hb dX6_proposed_192 ?_
            refine lv_ldc2 (v := 40) hx hb hown (hts _ wd_5_144) dX6_proposed_193 ?_
            refine lv_ldiv hx hb dX6_proposed_196 (by decide) ?_
            refine lv_goto (tgt := 213) hx hb dX6_proposed_197 (by decide) ?_
            have e14 : (f_X6_proposed_j2_1 m_height m_period m_swing lp ruv) = ((((3 : Int64) * (f_X6_ultimate_r m_height m_swing lp)) * (m_period lp.toNatClampNeg).toInt64) / (40 : Int64)) := if_pos h10
            refine hh_setl (y := (f_X6_proposed_j2_1 m_height m_period m_swing lp ruv)) (if_pos h10) ?_
            exact J2 _ _ _ (hP) (hD) hS (lv_sub hl [0, 1, 2, 3, 4, 5] rfl)
        · skip
          refine lv_iload_n hx hb dX6_proposed_138 rfl (lv_at hl 4 rfl) ?_
          have J3 : ∀ (H : Heap) (locs : List Loc) (ls : Array Slot), va_P (dC, dI) vwCl [zX6 adM ms_samples q_a1 q_a2 q_b q_deadTime q_load q_measure q_before q_past q_gain q_low q_high q_setpoint q_integral q_guard q_share q_mode q_hand q_follows q_hasMaster q_isStarved q_held q_sum q_lastError q_lastRate q_goesOn q_points q_at q_then q_experiment q_center q_height q_band q_isUp q_gone q_risings q_second q_greatest q_least q_period q_swing (f_X6_proposed_j1_1 m_experiment m_period m_swing lp ruv wh), zAI cI q_experiment 3 m_experiment, zAI cI q_height 3 m_height, zAI cI q_period 3 m_period, zAJ cJ q_swing 3 m_swing] H → va_D A [zX6 adM ms_samples q_a1 q_a2 q_b q_deadTime q_load q_measure q_before q_past q_gain q_low q_high q_setpoint q_integral q_guard q_share q_mode q_hand q_follows q_hasMaster q_isStarved q_held q_sum q_lastError q_lastRate q_goesOn q_points q_at q_then q_experiment q_center q_height q_band q_isUp q_gone q_risings q_second q_greatest q_least q_period q_swing (f_X6_proposed_j1_1 m_experiment m_period m_swing lp ruv wh), zAI cI q_experiment 3 m_experiment, zAI cI q_height 3 m_height, zAI cI q_period 3 m_period, zAJ cJ q_swing 3 m_swing] → va_S A s.heap H locs → lv_has ls 8 [(6, .long ((m_period lp.toNatClampNeg).toInt64)), (4, .long (f_X6_ultimate_r m_height m_swing lp)), (0, .ref adM), (1, .int lp), (2, .int ruv), (3, .int wh)] → W p l e (headSpec (Cond.code yX6_proposed cX6_proposed 8 (some .int) :: wAll) ({ frames := 1, cells := 0, slots := 0, locals := 25 })).room s m ([.ref adM, .int lp, .int ruv, .int wh] : List Value).toArray below meth c H locs 0 0 Q (F0 m 171 ls [.long (f_X6_proposed_j3_1 m_height m_period m_swing lp ruv)]) := by
            intro H locs ls hP hD hS hl
            refine lv_lconst (v := 0) hx hb dX6_proposed_171 (by decide) ?_
            refine lv_ldc2 (v := 5000) hx hb hown (hts _ wd_5_142) dX6_proposed_172 ?_
            refine hh_calll (w2 := [zX6 adM ms_samples q_a1 q_a2 q_b q_deadTime q_load q_measure q_before q_past q_gain q_low q_high q_setpoint q_integral q_guard q_share q_mode q_hand q_follows q_hasMaster q_isStarved q_held q_sum q_lastError q_lastRate q_goesOn q_points q_at q_then q_experiment q_center q_height q_band q_isUp q_gone q_risings q_second q_greatest q_least q_period q_swing (f_X6_proposed_j1_1 m_experiment m_period m_swing lp ruv wh), zAI cI q_experiment 3 m_experiment, zAI cI q_height 3 m_height, zAI cI q_period 3 m_period, zAJ cJ q_swing 3 m_swing]) (va_runS (As := [.long (f_X6_proposed_j3_1 m_height m_period m_swing lp ruv), .long (0 : Int64), .long (5000 : Int64)]) (rest := []) ⟨hx, hb, hml, hown, hts⟩ (c_X6_within l dC dI cI cJ cZ cO (f_X6_proposed_j3_1 m_height m_period m_swing lp ruv) (0 : Int64) (5000 : Int64) _) (va_cwS 3 hts (gd_S wd_5_37 wd_5_38 wd_1_7 wd_5_39) rfl rfl rfl (by decide +kernel) ⟨Nat.le_of_ble_eq_true rfl, Nat.le_of_ble_eq_true rfl⟩) (hh_pS gU_c (fun _ _ _ => trivial) hK hP hD [] rfl rfl) rfl rfl hl.1 rfl (lv_room (Nat.le_of_ble_eq_true rfl)) dX6_proposed_175 ⟨Nat.le_of_ble_eq_true rfl, Nat.le_of_ble_eq_true rfl⟩) hP hD hS hA [] [0, 1, 2, 3, 4] [0, 1, 2, 3, 4] rfl rfl rfl (by decide) rfl rfl (fun H locs hP hD hS => ?_)
            refine lv_l2i hx hb dX6_proposed_178 rfl ?_
            exact hh_reti hQ (((if_neg h7).trans ((if_neg h8).trans (if_pos h9))).symm) hx hb hr hlocks hP hK hD hS dX6_proposed_179
          refine lv_if_ne (tgt := 158) hx hb dX6_proposed_139 (by decide) (fun h11 => ?_) (fun h11 => ?_)
          · skip
            refine lv_ldc2 (v := 100) hx hb hown (hts _ wd_4_54) dX6_proposed_158 ?_
            refine lv_lload hx hb dX6_proposed_161 (lv_at hl 1 rfl) ?_
            refine lv_lmul hx hb dX6_proposed_163 ?_
            refine lv_ldc2 (v := 484) hx hb hown (hts _ wd_5_141) dX6_proposed_164 ?_
            refine lv_lload hx hb dX6_proposed_167 (lv_at hl 0 rfl) ?_
            refine lv_lmul hx hb dX6_proposed_169 ?_
            refine lv_ldiv hx hb dX6_proposed_170 (nzt (g_proposed (by assumption)).2.2 (by decide) (by decide)) ?_
            have e15 : (f_X6_proposed_j3_1 m_height m_period m_swing lp ruv) = (((100 : Int64) * (f_X6_ultimate_r m_height m_swing lp)) / ((484 : Int64) * (m_period lp.toNatClampNeg).toInt64)) := if_neg h11
            refine hh_setl (y := (f_X6_proposed_j3_1 m_height m_period m_swing lp ruv)) (if_neg h11) ?_
            exact J3 _ _ _ (hP) (hD) hS (lv_sub hl [0, 1, 2, 3, 4, 5] rfl)
          · skip
            refine lv_ldc2 (v := 12) hx hb hown (hts _ wd_5_140) dX6_proposed_142 ?_
            refine lv_lload hx hb dX6_proposed_145 (lv_at hl 1 rfl) ?_
            refine lv_lmul hx hb dX6_proposed_147 ?_
            refine lv_ldc2 (v := 10) hx hb hown (hts _ wd_5_137) dX6_proposed_148 ?_
            refine lv_lload hx hb dX6_proposed_151 (lv_at hl 0 rfl) ?_
            refine lv_lmul hx hb dX6_proposed_153 ?_
            refine lv_ldiv hx hb dX6_proposed_154 (nzt (g_proposed (by assumption)).2.2 (by decide) (by decide)) ?_
            refine lv_goto (tgt := 171) hx hb dX6_proposed_155 (by decide) ?_
            have e16 : (f_X6_proposed_j3_1 m_height m_period m_swing lp ruv) = (((12 : Int64) * (f_X6_ultimate_r m_height m_swing lp)) / ((10 : Int64) * (m_period lp.toNatClampNeg).toInt64)) := if_pos h11
            refine hh_setl (y := (f_X6_proposed_j3_1 m_height m_period m_swing lp ruv)) (if_pos h11) ?_
            exact J3 _ _ _ (hP) (hD) hS (lv_sub hl [0, 1, 2, 3, 4, 5] rfl)
      · skip
        refine lv_iload_n hx hb dX6_proposed_97 rfl (lv_at hl 4 rfl) ?_
        have J4 : ∀ (H : Heap) (locs : List Loc) (ls : Array Slot), va_P (dC, dI) vwCl [zX6 adM ms_samples q_a1 q_a2 q_b q_deadTime q_load q_measure q_before q_past q_gain q_low q_high q_setpoint q_integral q_guard q_share q_mode q_hand q_follows q_hasMaster q_isStarved q_held q_sum q_lastError q_lastRate q_goesOn q_points q_at q_then q_experiment q_center q_height q_band q_isUp q_gone q_risings q_second q_greatest q_least q_period q_swing (f_X6_proposed_j1_1 m_experiment m_period m_swing lp ruv wh), zAI cI q_experiment 3 m_experiment, zAI cI q_height 3 m_height, zAI cI q_period 3 m_period, zAJ cJ q_swing 3 m_swing] H → va_D A [zX6 adM ms_samples q_a1 q_a2 q_b q_deadTime q_load q_measure q_before q_past q_gain q_low q_high q_setpoint q_integral q_guard q_share q_mode q_hand q_follows q_hasMaster q_isStarved q_held q_sum q_lastError q_lastRate q_goesOn q_points q_at q_then q_experiment q_center q_height q_band q_isUp q_gone q_risings q_second q_greatest q_least q_period q_swing (f_X6_proposed_j1_1 m_experiment m_period m_swing lp ruv wh), zAI cI q_experiment 3 m_experiment, zAI cI q_height 3 m_height, zAI cI q_period 3 m_period, zAJ cJ q_swing 3 m_swing] → va_S A s.heap H locs → lv_has ls 8 [(6, .long ((m_period lp.toNatClampNeg).toInt64)), (4, .long (f_X6_ultimate_r m_height m_swing lp)), (0, .ref adM), (1, .int lp), (2, .int ruv), (3, .int wh)] → W p l e (headSpec (Cond.code yX6_proposed cX6_proposed 8 (some .int) :: wAll) ({ frames := 1, cells := 0, slots := 0, locals := 25 })).room s m ([.ref adM, .int lp, .int ruv, .int wh] : List Value).toArray below meth c H locs 0 0 Q (F0 m 124 ls [.long (f_X6_proposed_j4_1 m_height m_swing lp ruv)]) := by
          intro H locs ls hP hD hS hl
          refine lv_lconst (v := 0) hx hb dX6_proposed_124 (by decide) ?_
          refine lv_ldc2 (v := 20000) hx hb hown (hts _ wd_5_139) dX6_proposed_125 ?_
          refine hh_calll (w2 := [zX6 adM ms_samples q_a1 q_a2 q_b q_deadTime q_load q_measure q_before q_past q_gain q_low q_high q_setpoint q_integral q_guard q_share q_mode q_hand q_follows q_hasMaster q_isStarved q_held q_sum q_lastError q_lastRate q_goesOn q_points q_at q_then q_experiment q_center q_height q_band q_isUp q_gone q_risings q_second q_greatest q_least q_period q_swing (f_X6_proposed_j1_1 m_experiment m_period m_swing lp ruv wh), zAI cI q_experiment 3 m_experiment, zAI cI q_height 3 m_height, zAI cI q_period 3 m_period, zAJ cJ q_swing 3 m_swing]) (va_runS (As := [.long (f_X6_proposed_j4_1 m_height m_swing lp ruv), .long (0 : Int64), .long (20000 : Int64)]) (rest := []) ⟨hx, hb, hml, hown, hts⟩ (c_X6_within l dC dI cI cJ cZ cO (f_X6_proposed_j4_1 m_height m_swing lp ruv) (0 : Int64) (20000 : Int64) _) (va_cwS 3 hts (gd_S wd_5_37 wd_5_38 wd_1_7 wd_5_39) rfl rfl rfl (by decide +kernel) ⟨Nat.le_of_ble_eq_true rfl, Nat.le_of_ble_eq_true rfl⟩) (hh_pS gU_c (fun _ _ _ => trivial) hK hP hD [] rfl rfl) rfl rfl hl.1 rfl (lv_room (Nat.le_of_ble_eq_true rfl)) dX6_proposed_128 ⟨Nat.le_of_ble_eq_true rfl, Nat.le_of_ble_eq_true rfl⟩) hP hD hS hA [] [0, 1, 2, 3, 4] [0, 1, 2, 3, 4] rfl rfl rfl (by decide) rfl rfl (fun H locs hP hD hS => ?_)
          refine lv_l2i hx hb dX6_proposed_131 rfl ?_
          exact hh_reti hQ (((if_neg h7).trans (if_pos h8)).symm) hx hb hr hlocks hP hK hD hS dX6_proposed_132
        refine lv_if_ne (tgt := 114) hx hb dX6_proposed_98 (by decide) (fun h12 => ?_) (fun h12 => ?_)
        · skip
          refine lv_ldc2 (v := 10) hx hb hown (hts _ wd_5_137) dX6_proposed_114 ?_
          refine lv_lload hx hb dX6_proposed_117 (lv_at hl 1 rfl) ?_
          refine lv_lmul hx hb dX6_proposed_119 ?_
          refine lv_ldc2 (v := 22) hx hb hown (hts _ wd_5_138) dX6_proposed_120 ?_
          refine lv_ldiv hx hb dX6_proposed_123 (by decide) ?_
          have e17 : (f_X6_proposed_j4_1 m_height m_swing lp ruv) = (((10 : Int64) * (f_X6_ultimate_r m_height m_swing lp)) / (22 : Int64)) := if_neg h12
          refine hh_setl (y := (f_X6_proposed_j4_1 m_height m_swing lp ruv)) (if_neg h12) ?_
          exact J4 _ _ _ (hP) (hD) hS (lv_sub hl [0, 1, 2, 3, 4, 5] rfl)
        · skip
          refine lv_ldc2 (v := 6) hx hb hown (hts _ wd_5_136) dX6_proposed_101 ?_
          refine lv_lload hx hb dX6_proposed_104 (lv_at hl 1 rfl) ?_
          refine lv_lmul hx hb dX6_proposed_106 ?_
          refine lv_ldc2 (v := 10) hx hb hown (hts _ wd_5_137) dX6_proposed_107 ?_
          refine lv_ldiv hx hb dX6_proposed_110 (by decide) ?_
          refine lv_goto (tgt := 124) hx hb dX6_proposed_111 (by decide) ?_
          have e18 : (f_X6_proposed_j4_1 m_height m_swing lp ruv) = (((6 : Int64) * (f_X6_ultimate_r m_height m_swing lp)) / (10 : Int64)) := if_pos h12
          refine hh_setl (y := (f_X6_proposed_j4_1 m_height m_swing lp ruv)) (if_pos h12) ?_
          exact J4 _ _ _ (hP) (hD) hS (lv_sub hl [0, 1, 2, 3, 4, 5] rfl)
    · skip
      refine lv_iconst (v := 0) hx hb dX6_proposed_75 (by decide) ?_
      exact hh_reti hQ ((if_pos h7).symm) hx hb hr hlocks hP hK hD hS dX6_proposed_76
  refine lv_if_eq (tgt := 17) hx hb dX6_proposed_5 (by decide) (fun h1 => ?_) (fun h1 => ?_)
  · skip
    refine lv_iconst (v := 1) hx hb dX6_proposed_17 (by decide) ?_
    refine lv_goto (tgt := 69) hx hb dX6_proposed_18 (by decide) ?_
    have e19 : (f_X6_proposed_j1_1 m_experiment m_period m_swing lp ruv wh) = (1 : Int32) := if_pos h1
    refine hh_seti (y := (f_X6_proposed_j1_1 m_experiment m_period m_swing lp ruv wh)) (if_pos h1) ?_
    exact J1 _ _ _ (hP) (hD) hS (lv_sub hl [0, 1, 2, 3] rfl)
  · skip
    refine lv_iload_n hx hb dX6_proposed_8 rfl (lv_at hl 3 rfl) ?_
    refine lv_iconst (v := 0) hx hb dX6_proposed_9 (by decide) ?_
    refine lv_iconst (v := 2) hx hb dX6_proposed_10 (by decide) ?_
    refine hh_calli (w2 := [zX6 adM ms_samples q_a1 q_a2 q_b q_deadTime q_load q_measure q_before q_past q_gain q_low q_high q_setpoint q_integral q_guard q_share q_mode q_hand q_follows q_hasMaster q_isStarved q_held q_sum q_lastError q_lastRate q_goesOn q_points q_at q_then q_experiment q_center q_height q_band q_isUp q_gone q_risings q_second q_greatest q_least q_period q_swing ms_thrown, zAI cI q_experiment 3 m_experiment, zAI cI q_height 3 m_height, zAI cI q_period 3 m_period, zAJ cJ q_swing 3 m_swing]) (va_runS (As := [.int wh, .int (0 : Int32), .int (2 : Int32)]) (rest := [.ref adM]) ⟨hx, hb, hml, hown, hts⟩ (c_X6_isIn l dC dI cI cJ cZ cO wh (0 : Int32) (2 : Int32) _) (va_cwS 3 hts (gd_S wd_4_192 wd_4_193 wd_1_7 wd_4_194) rfl rfl rfl (by decide +kernel) ⟨Nat.le_of_ble_eq_true rfl, Nat.le_of_ble_eq_true rfl⟩) (hh_pS gU_c (fun _ _ _ => trivial) hK hP hD [] rfl rfl) rfl rfl hl.1 rfl (lv_room (Nat.le_of_ble_eq_true rfl)) dX6_proposed_11 ⟨Nat.le_of_ble_eq_true rfl, Nat.le_of_ble_eq_true rfl⟩) hP hD hS hA [] [0, 1, 2, 3, 4] [0, 1, 2, 3, 4] rfl rfl rfl (by decide) rfl rfl (fun H locs hP hD hS => ?_)
    refine lv_if_ne (tgt := 21) hx hb dX6_proposed_14 (by decide) (fun h2 => ?_) (fun h2 => ?_)
    · skip
      refine lv_iload_n hx hb dX6_proposed_21 rfl (lv_at hl 2 rfl) ?_
      refine lv_iconst (v := 0) hx hb dX6_proposed_22 (by decide) ?_
      refine lv_iconst (v := 1) hx hb dX6_proposed_23 (by decide) ?_
      refine hh_calli (w2 := [zX6 adM ms_samples q_a1 q_a2 q_b q_deadTime q_load q_measure q_before q_past q_gain q_low q_high q_setpoint q_integral q_guard q_share q_mode q_hand q_follows q_hasMaster q_isStarved q_held q_sum q_lastError q_lastRate q_goesOn q_points q_at q_then q_experiment q_center q_height q_band q_isUp q_gone q_risings q_second q_greatest q_least q_period q_swing ms_thrown, zAI cI q_experiment 3 m_experiment, zAI cI q_height 3 m_height, zAI cI q_period 3 m_period, zAJ cJ q_swing 3 m_swing]) (va_runS (As := [.int ruv, .int (0 : Int32), .int (1 : Int32)]) (rest := [.ref adM]) ⟨hx, hb, hml, hown, hts⟩ (c_X6_isIn l dC dI cI cJ cZ cO ruv (0 : Int32) (1 : Int32) _) (va_cwS 3 hts (gd_S wd_4_192 wd_4_193 wd_1_7 wd_4_194) rfl rfl rfl (by decide +kernel) ⟨Nat.le_of_ble_eq_true rfl, Nat.le_of_ble_eq_true rfl⟩) (hh_pS gU_c (fun _ _ _ => trivial) hK hP hD [] rfl rfl) rfl rfl hl.1 rfl (lv_room (Nat.le_of_ble_eq_true rfl)) dX6_proposed_24 ⟨Nat.le_of_ble_eq_true rfl, Nat.le_of_ble_eq_true rfl⟩) hP hD hS hA [] [0, 1, 2, 3, 4] [0, 1, 2, 3, 4] rfl rfl rfl (by decide) rfl rfl (fun H locs hP hD hS => ?_)
      refine lv_if_ne (tgt := 34) hx hb dX6_proposed_27 (by decide) (fun h3 => ?_) (fun h3 => ?_)
      · skip
        refine lv_aload_n hx hb dX6_proposed_34 rfl (lv_at hl 0 rfl) ?_
        refine va_get (D := (dC, dI)) (ci := 6) (v := .ref q_experiment) (C := RX6) (T := TX6) (N := 42) hx hb hts inW_X6 hown hK hP 0 rfl rfl 29 (by decide) (hts _ wd_4_85) (fun _ h9 => h9) rfl dX6_proposed_35 ?_
        refine lv_iload_n hx hb dX6_proposed_38 rfl (lv_at hl 1 rfl) ?_
        refine va_iald hx hb hK hP 1 0 rfl rfl (i := lp) (ix_of (P := fun lp => vp_in lp 3) (by first | exact loop3 (by assumption) | exact (g_proposed (by assumption)).1) (ix_d (by decide)) (ix_d (by decide)) (ix_d (by decide))) dX6_proposed_39 ?_
        refine lv_iconst (v := 2) hx hb dX6_proposed_40 (by decide) ?_
        refine lv_icmp_ne (tgt := 64) hx hb dX6_proposed_41 (by decide) (fun h4 => ?_) (fun h4 => ?_)
        · skip
          refine lv_iconst (v := 3) hx hb dX6_proposed_64 (by decide) ?_
          refine lv_goto (tgt := 69) hx hb dX6_proposed_65 (by decide) ?_
          have e20 : (f_X6_proposed_j1_1 m_experiment m_period m_swing lp ruv wh) = (3 : Int32) := (if_neg h1).trans ((if_neg h2).trans ((if_neg h3).trans (if_neg h4)))
          refine hh_seti (y := (f_X6_proposed_j1_1 m_experiment m_period m_swing lp ruv wh)) ((if_neg h1).trans ((if_neg h2).trans ((if_neg h3).trans (if_neg h4)))) ?_
          exact J1 _ _ _ (hP) (hD) hS (lv_sub hl [0, 1, 2, 3] rfl)
        · skip
          refine lv_aload_n hx hb dX6_proposed_44 rfl (lv_at hl 0 rfl) ?_
          refine va_get (D := (dC, dI)) (ci := 6) (v := .ref q_swing) (C := RX6) (T := TX6) (N := 42) hx hb hts inW_X6 hown hK hP 0 rfl rfl 40 (by decide) (hts _ wd_4_96) (fun _ h9 => h9) rfl dX6_proposed_45 ?_
          refine lv_iload_n hx hb dX6_proposed_48 rfl (lv_at hl 1 rfl) ?_
          refine va_lald hx hb hK hP 4 1 rfl rfl (i := lp) (ix_of (P := fun lp => vp_in lp 3) (by first | exact loop3 (by assumption) | exact (g_proposed (by assumption)).1) (ix_d (by decide)) (ix_d (by decide)) (ix_d (by decide))) dX6_proposed_49 ?_
          refine lv_lconst (v := 0) hx hb dX6_proposed_50 (by decide) ?_
          refine hh_ceq (tgt := 64) hx hb dX6_proposed_51 dX6_proposed_52 (by decide) (fun h5 => ?_) (fun h5 => ?_)
          · skip
            refine lv_iconst (v := 3) hx hb dX6_proposed_64 (by decide) ?_
            refine lv_goto (tgt := 69) hx hb dX6_proposed_65 (by decide) ?_
            have e21 : (f_X6_proposed_j1_1 m_experiment m_period m_swing lp ruv wh) = (3 : Int32) := (if_neg h1).trans ((if_neg h2).trans ((if_neg h3).trans ((if_pos h4).trans (if_pos h5))))
            refine hh_seti (y := (f_X6_proposed_j1_1 m_experiment m_period m_swing lp ruv wh)) ((if_neg h1).trans ((if_neg h2).trans ((if_neg h3).trans ((if_pos h4).trans (if_pos h5))))) ?_
            exact J1 _ _ _ (hP) (hD) hS (lv_sub hl [0, 1, 2, 3] rfl)
          · skip
            refine lv_aload_n hx hb dX6_proposed_55 rfl (lv_at hl 0 rfl) ?_
            refine va_get (D := (dC, dI)) (ci := 6) (v := .ref q_period) (C := RX6) (T := TX6) (N := 42) hx hb hts inW_X6 hown hK hP 0 rfl rfl 39 (by decide) (hts _ wd_4_95) (fun _ h9 => h9) rfl dX6_proposed_56 ?_
            refine lv_iload_n hx hb dX6_proposed_59 rfl (lv_at hl 1 rfl) ?_
            refine va_iald hx hb hK hP 3 0 rfl rfl (i := lp) (ix_of (P := fun lp => vp_in lp 3) (by first | exact loop3 (by assumption) | exact (g_proposed (by assumption)).1) (ix_d (by decide)) (ix_d (by decide)) (ix_d (by decide))) dX6_proposed_60 ?_
            refine lv_if_ne (tgt := 68) hx hb dX6_proposed_61 (by decide) (fun h6 => ?_) (fun h6 => ?_)
            · skip
              refine lv_iconst (v := 0) hx hb dX6_proposed_68 (by decide) ?_
              have e22 : (f_X6_proposed_j1_1 m_experiment m_period m_swing lp ruv wh) = (0 : Int32) := (if_neg h1).trans ((if_neg h2).trans ((if_neg h3).trans ((if_pos h4).trans ((if_neg h5).trans (if_neg h6)))))
              refine hh_seti (y := (f_X6_proposed_j1_1 m_experiment m_period m_swing lp ruv wh)) ((if_neg h1).trans ((if_neg h2).trans ((if_neg h3).trans ((if_pos h4).trans ((if_neg h5).trans (if_neg h6)))))) ?_
              exact J1 _ _ _ (hP) (hD) hS (lv_sub hl [0, 1, 2, 3] rfl)
            · skip
              refine lv_iconst (v := 3) hx hb dX6_proposed_64 (by decide) ?_
              refine lv_goto (tgt := 69) hx hb dX6_proposed_65 (by decide) ?_
              have e23 : (f_X6_proposed_j1_1 m_experiment m_period m_swing lp ruv wh) = (3 : Int32) := (if_neg h1).trans ((if_neg h2).trans ((if_neg h3).trans ((if_pos h4).trans ((if_neg h5).trans (if_pos h6)))))
              refine hh_seti (y := (f_X6_proposed_j1_1 m_experiment m_period m_swing lp ruv wh)) ((if_neg h1).trans ((if_neg h2).trans ((if_neg h3).trans ((if_pos h4).trans ((if_neg h5).trans (if_pos h6)))))) ?_
              exact J1 _ _ _ (hP) (hD) hS (lv_sub hl [0, 1, 2, 3] rfl)
      · skip
        refine lv_iconst (v := 2) hx hb dX6_proposed_30 (by decide) ?_
        refine lv_goto (tgt := 69) hx hb dX6_proposed_31 (by decide) ?_
        have e24 : (f_X6_proposed_j1_1 m_experiment m_period m_swing lp ruv wh) = (2 : Int32) := (if_neg h1).trans ((if_neg h2).trans (if_pos h3))
        refine hh_seti (y := (f_X6_proposed_j1_1 m_experiment m_period m_swing lp ruv wh)) ((if_neg h1).trans ((if_neg h2).trans (if_pos h3))) ?_
        exact J1 _ _ _ (hP) (hD) hS (lv_sub hl [0, 1, 2, 3] rfl)
    · skip
      refine lv_iconst (v := 1) hx hb dX6_proposed_17 (by decide) ?_
      refine lv_goto (tgt := 69) hx hb dX6_proposed_18 (by decide) ?_
      have e25 : (f_X6_proposed_j1_1 m_experiment m_period m_swing lp ruv wh) = (1 : Int32) := (if_neg h1).trans (if_pos h2)
      refine hh_seti (y := (f_X6_proposed_j1_1 m_experiment m_period m_swing lp ruv wh)) ((if_neg h1).trans (if_pos h2)) ?_
      exact J1 _ _ _ (hP) (hD) hS (lv_sub hl [0, 1, 2, 3] rfl)
