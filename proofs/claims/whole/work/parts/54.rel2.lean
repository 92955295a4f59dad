section RO
variable {T : LT × LT × LT} {bs : Int32} {M : MT}
set_option maxHeartbeats 1000000 in
theorem rel_setGuard_0 (hR : Rel T bs M) (guv : Int32) (shv : Int32) (uo : Nat → Int64) : rm_thrown (um_setGuard M 0 guv shv) = lr_setGuard T.1 guv shv ∧ (lr_setGuard T.1 guv shv = 0 → lo_setGuard T.1 uo guv shv (0 : Int32).toNatClampNeg = (rm_setGuard M 0 guv shv).toInt64) ∧ Rel ((lu_setGuard T.1 guv shv), T.2.1, T.2.2) bs (um_setGuard M 0 guv shv) := by
  obtain ⟨h_bs, h_a1, h_a2, h_b, h_deadTime, h_load, h_measure, h_before, h_low, h_high, h_setpoint, h_integral, h_guard, h_share, h_mode, h_hand, h_follows, h_hasMaster, h_isStarved, h_held, h_sum, h_lastError, h_lastRate, h_experiment, h_center, h_height, h_band, h_isUp, h_gone, h_risings, h_second, h_greatest, h_least, h_period, h_swing, h_gain, h_past, h_go, h_sched, h_i_lim, h_i_gb, h_i_md, h_i_dt, h_i_me, h_i_st, h_i_up, h_i_gl, h_i_sw, h_i_rl, h_i_m0⟩ := Rel_iff.mp hR
  have hcd : (f_X6_setGuard_j1_1 0 guv shv) = wr12 (f_X5_setGuard_x guv shv) := cd_setGuard il_0
  by_cases hc : (f_X5_setGuard_x guv shv) = 0
  · have hz : ¬ f_X6_can_j1_1 (f_X6_setGuard_j1_1 0 guv shv) = 0 := can_ok (by rw [hcd]; exact w12_0 hc)
    refine ⟨?_, fun _ => ?_, h_bs, h_a1, h_a2, h_b, h_deadTime, h_load, h_measure, h_before, h_low, h_high, h_setpoint, h_integral, ?_, ?_, h_mode, h_hand, h_follows, h_hasMaster, h_isStarved, h_held, h_sum, h_lastError, h_lastRate, h_experiment, h_center, h_height, h_band, h_isUp, h_gone, h_risings, h_second, h_greatest, h_least, h_period, h_swing, h_gain, h_past, h_go, h_sched, h_i_lim, h_i_gb, h_i_md, h_i_dt, h_i_me, h_i_st, h_i_up, h_i_gl, h_i_sw, h_i_rl, h_i_m0⟩
    · show (f_X6_setGuard_j1_1 0 guv shv) = f_L_setGuard_r guv shv
      rw [hcd]; unfold f_L_setGuard_r; rw [if_pos hc]; exact w12_0 hc
    · show (f_L_setGuard_uo (yl_kgu T.1) uo guv shv) (0 : Int32).toNatClampNeg = (f_X6_setGuard_r (ym_m_guard M) 0 guv shv).toInt64
      simp only [f_L_setGuard_uo, f_X6_setGuard_r, if_pos hc, if_neg hz]
      rw [ul_eq]
      exact congrArg Int32.toInt64 (h_guard.1).symm
    · show e3 (f_X6_setGuard_m_guard (ym_m_guard M) 0 guv shv) (f_L_setGuard_kgu (yl_kgu T.1) guv shv) (yl_kgu T.2.1) (yl_kgu T.2.2)
      simp only [f_L_setGuard_kgu, f_X6_setGuard_m_guard, if_pos hc, if_neg hz]
      exact ⟨(u_eq _ _ _), ((u_ne _ _ (by decide)).trans h_guard.2.1), ((u_ne _ _ (by decide)).trans h_guard.2.2)⟩
    · show e3 (f_X6_setGuard_m_share (ym_m_share M) 0 guv shv) (f_L_setGuard_ksh (yl_ksh T.1) guv shv) (yl_ksh T.2.1) (yl_ksh T.2.2)
      simp only [f_L_setGuard_ksh, f_X6_setGuard_m_share, if_pos hc, if_neg hz]
      exact ⟨(u_eq _ _ _), ((u_ne _ _ (by decide)).trans h_share.2.1), ((u_ne _ _ (by decide)).trans h_share.2.2)⟩
  · have hz : f_X6_can_j1_1 (f_X6_setGuard_j1_1 0 guv shv) = 0 := can_no (by rw [hcd]; exact w12_n hc)
    refine ⟨?_, fun h => absurd h ?_, h_bs, h_a1, h_a2, h_b, h_deadTime, h_load, h_measure, h_before, h_low, h_high, h_setpoint, h_integral, ?_, ?_, h_mode, h_hand, h_follows, h_hasMaster, h_isStarved, h_held, h_sum, h_lastError, h_lastRate, h_experiment, h_center, h_height, h_band, h_isUp, h_gone, h_risings, h_second, h_greatest, h_least, h_period, h_swing, h_gain, h_past, h_go, h_sched, h_i_lim, h_i_gb, h_i_md, h_i_dt, h_i_me, h_i_st, h_i_up, h_i_gl, h_i_sw, h_i_rl, h_i_m0⟩
    · show (f_X6_setGuard_j1_1 0 guv shv) = f_L_setGuard_r guv shv
      rw [hcd]; unfold f_L_setGuard_r; rw [if_neg hc]
    · show ¬ f_L_setGuard_r guv shv = 0
      unfold f_L_setGuard_r; rw [if_neg hc]; exact w12_n hc
    · show e3 (f_X6_setGuard_m_guard (ym_m_guard M) 0 guv shv) (f_L_setGuard_kgu (yl_kgu T.1) guv shv) (yl_kgu T.2.1) (yl_kgu T.2.2)
      simp only [f_L_setGuard_kgu, f_X6_setGuard_m_guard, if_neg hc, if_pos hz]
      exact h_guard
    · show e3 (f_X6_setGuard_m_share (ym_m_share M) 0 guv shv) (f_L_setGuard_ksh (yl_ksh T.1) guv shv) (yl_ksh T.2.1) (yl_ksh T.2.2)
      simp only [f_L_setGuard_ksh, f_X6_setGuard_m_share, if_neg hc, if_pos hz]
      exact h_share
set_option maxHeartbeats 1000000 in
theorem rel_setGuard_1 (hR : Rel T bs M) (guv : Int32) (shv : Int32) (uo : Nat → Int64) : rm_thrown (um_setGuard M 1 guv shv) = lr_setGuard T.2.1 guv shv ∧ (lr_setGuard T.2.1 guv shv = 0 → lo_setGuard T.2.1 uo guv shv (0 : Int32).toNatClampNeg = (rm_setGuard M 1 guv shv).toInt64) ∧ Rel (T.1, (lu_setGuard T.2.1 guv shv), T.2.2) bs (um_setGuard M 1 guv shv) := by
  obtain ⟨h_bs, h_a1, h_a2, h_b, h_deadTime, h_load, h_measure, h_before, h_low, h_high, h_setpoint, h_integral, h_guard, h_share, h_mode, h_hand, h_follows, h_hasMaster, h_isStarved, h_held, h_sum, h_lastError, h_lastRate, h_experiment, h_center, h_height, h_band, h_isUp, h_gone, h_risings, h_second, h_greatest, h_least, h_period, h_swing, h_gain, h_past, h_go, h_sched, h_i_lim, h_i_gb, h_i_md, h_i_dt, h_i_me, h_i_st, h_i_up, h_i_gl, h_i_sw, h_i_rl, h_i_m0⟩ := Rel_iff.mp hR
  have hcd : (f_X6_setGuard_j1_1 1 guv shv) = wr12 (f_X5_setGuard_x guv shv) := cd_setGuard il_1
  by_cases hc : (f_X5_setGuard_x guv shv) = 0
  · have hz : ¬ f_X6_can_j1_1 (f_X6_setGuard_j1_1 1 guv shv) = 0 := can_ok (by rw [hcd]; exact w12_0 hc)
    refine ⟨?_, fun _ => ?_, h_bs, h_a1, h_a2, h_b, h_deadTime, h_load, h_measure, h_before, h_low, h_high, h_setpoint, h_integral, ?_, ?_, h_mode, h_hand, h_follows, h_hasMaster, h_isStarved, h_held, h_sum, h_lastError, h_lastRate, h_experiment, h_center, h_height, h_band, h_isUp, h_gone, h_risings, h_second, h_greatest, h_least, h_period, h_swing, h_gain, h_past, h_go, h_sched, h_i_lim, h_i_gb, h_i_md, h_i_dt, h_i_me, h_i_st, h_i_up, h_i_gl, h_i_sw, h_i_rl, h_i_m0⟩
    · show (f_X6_setGuard_j1_1 1 guv shv) = f_L_setGuard_r guv shv
      rw [hcd]; unfold f_L_setGuard_r; rw [if_pos hc]; exact w12_0 hc
    · show (f_L_setGuard_uo (yl_kgu T.2.1) uo guv shv) (0 : Int32).toNatClampNeg = (f_X6_setGuard_r (ym_m_guard M) 1 guv shv).toInt64
      simp only [f_L_setGuard_uo, f_X6_setGuard_r, if_pos hc, if_neg hz]
      rw [ul_eq]
      exact congrArg Int32.toInt64 (h_guard.2.1).symm
    · show e3 (f_X6_setGuard_m_guard (ym_m_guard M) 1 guv shv) (yl_kgu T.1) (f_L_setGuard_kgu (yl_kgu T.2.1) guv shv) (yl_kgu T.2.2)
      simp only [f_L_setGuard_kgu, f_X6_setGuard_m_guard, if_pos hc, if_neg hz]
      exact ⟨((u_ne _ _ (by decide)).trans h_guard.1), (u_eq _ _ _), ((u_ne _ _ (by decide)).trans h_guard.2.2)⟩
    · show e3 (f_X6_setGuard_m_share (ym_m_share M) 1 guv shv) (yl_ksh T.1) (f_L_setGuard_ksh (yl_ksh T.2.1) guv shv) (yl_ksh T.2.2)
      simp only [f_L_setGuard_ksh, f_X6_setGuard_m_share, if_pos hc, if_neg hz]
      exact ⟨((u_ne _ _ (by decide)).trans h_share.1), (u_eq _ _ _), ((u_ne _ _ (by decide)).trans h_share.2.2)⟩
  · have hz : f_X6_can_j1_1 (f_X6_setGuard_j1_1 1 guv shv) = 0 := can_no (by rw [hcd]; exact w12_n hc)
    refine ⟨?_, fun h => absurd h ?_, h_bs, h_a1, h_a2, h_b, h_deadTime, h_load, h_measure, h_before, h_low, h_high, h_setpoint, h_integral, ?_, ?_, h_mode, h_hand, h_follows, h_hasMaster, h_isStarved, h_held, h_sum, h_lastError, h_lastRate, h_experiment, h_center, h_height, h_band, h_isUp, h_gone, h_risings, h_second, h_greatest, h_least, h_period, h_swing, h_gain, h_past, h_go, h_sched, h_i_lim, h_i_gb, h_i_md, h_i_dt, h_i_me, h_i_st, h_i_up, h_i_gl, h_i_sw, h_i_rl, h_i_m0⟩
    · show (f_X6_setGuard_j1_1 1 guv shv) = f_L_setGuard_r guv shv
      rw [hcd]; unfold f_L_setGuard_r; rw [if_neg hc]
    · show ¬ f_L_setGuard_r guv shv = 0
      unfold f_L_setGuard_r; rw [if_neg hc]; exact w12_n hc
    · show e3 (f_X6_setGuard_m_guard (ym_m_guard M) 1 guv shv) (yl_kgu T.1) (f_L_setGuard_kgu (yl_kgu T.2.1) guv shv) (yl_kgu T.2.2)
      simp only [f_L_setGuard_kgu, f_X6_setGuard_m_guard, if_neg hc, if_pos hz]
      exact h_guard
    · show e3 (f_X6_setGuard_m_share (ym_m_share M) 1 guv shv) (yl_ksh T.1) (f_L_setGuard_ksh (yl_ksh T.2.1) guv shv) (yl_ksh T.2.2)
      simp only [f_L_setGuard_ksh, f_X6_setGuard_m_share, if_neg hc, if_pos hz]
      exact h_share
set_option maxHeartbeats 1000000 in
theorem rel_setGuard_2 (hR : Rel T bs M) (guv : Int32) (shv : Int32) (uo : Nat → Int64) : rm_thrown (um_setGuard M 2 guv shv) = lr_setGuard T.2.2 guv shv ∧ (lr_setGuard T.2.2 guv shv = 0 → lo_setGuard T.2.2 uo guv shv (0 : Int32).toNatClampNeg = (rm_setGuard M 2 guv shv).toInt64) ∧ Rel (T.1, T.2.1, (lu_setGuard T.2.2 guv shv)) bs (um_setGuard M 2 guv shv) := by
  obtain ⟨h_bs, h_a1, h_a2, h_b, h_deadTime, h_load, h_measure, h_before, h_low, h_high, h_setpoint, h_integral, h_guard, h_share, h_mode, h_hand, h_follows, h_hasMaster, h_isStarved, h_held, h_sum, h_lastError, h_lastRate, h_experiment, h_center, h_height, h_band, h_isUp, h_gone, h_risings, h_second, h_greatest, h_least, h_period, h_swing, h_gain, h_past, h_go, h_sched, h_i_lim, h_i_gb, h_i_md, h_i_dt, h_i_me, h_i_st, h_i_up, h_i_gl, h_i_sw, h_i_rl, h_i_m0⟩ := Rel_iff.mp hR
  have hcd : (f_X6_setGuard_j1_1 2 guv shv) = wr12 (f_X5_setGuard_x guv shv) := cd_setGuard il_2
  by_cases hc : (f_X5_setGuard_x guv shv) = 0
  · have hz : ¬ f_X6_can_j1_1 (f_X6_setGuard_j1_1 2 guv shv) = 0 := can_ok (by rw [hcd]; exact w12_0 hc)
    refine ⟨?_, fun _ => ?_, h_bs, h_a1, h_a2, h_b, h_deadTime, h_load, h_measure, h_before, h_low, h_high, h_setpoint, h_integral, ?_, ?_, h_mode, h_hand, h_follows, h_hasMaster, h_isStarved, h_held, h_sum, h_lastError, h_lastRate, h_experiment, h_center, h_height, h_band, h_isUp, h_gone, h_risings, h_second, h_greatest, h_least, h_period, h_swing, h_gain, h_past, h_go, h_sched, h_i_lim, h_i_gb, h_i_md, h_i_dt, h_i_me, h_i_st, h_i_up, h_i_gl, h_i_sw, h_i_rl, h_i_m0⟩
    · show (f_X6_setGuard_j1_1 2 guv shv) = f_L_setGuard_r guv shv
      rw [hcd]; unfold f_L_setGuard_r; rw [if_pos hc]; exact w12_0 hc
    · show (f_L_setGuard_uo (yl_kgu T.2.2) uo guv shv) (0 : Int32).toNatClampNeg = (f_X6_setGuard_r (ym_m_guard M) 2 guv shv).toInt64
      simp only [f_L_setGuard_uo, f_X6_setGuard_r, if_pos hc, if_neg hz]
      rw [ul_eq]
      exact congrArg Int32.toInt64 (h_guard.2.2).symm
    · show e3 (f_X6_setGuard_m_guard (ym_m_guard M) 2 guv shv) (yl_kgu T.1) (yl_kgu T.2.1) (f_L_setGuard_kgu (yl_kgu T.2.2) guv shv)
      simp only [f_L_setGuard_kgu, f_X6_setGuard_m_guard, if_pos hc, if_neg hz]
      exact ⟨((u_ne _ _ (by decide)).trans h_guard.1), ((u_ne _ _ (by decide)).trans h_guard.2.1), (u_eq _ _ _)⟩
    · show e3 (f_X6_setGuard_m_share (ym_m_share M) 2 guv shv) (yl_ksh T.1) (yl_ksh T.2.1) (f_L_setGuard_ksh (yl_ksh T.2.2) guv shv)
      simp only [f_L_setGuard_ksh, f_X6_setGuard_m_share, if_pos hc, if_neg hz]
      exact ⟨((u_ne _ _ (by decide)).trans h_share.1), ((u_ne _ _ (by decide)).trans h_share.2.1), (u_eq _ _ _)⟩
  · have hz : f_X6_can_j1_1 (f_X6_setGuard_j1_1 2 guv shv) = 0 := can_no (by rw [hcd]; exact w12_n hc)
    refine ⟨?_, fun h => absurd h ?_, h_bs, h_a1, h_a2, h_b, h_deadTime, h_load, h_measure, h_before, h_low, h_high, h_setpoint, h_integral, ?_, ?_, h_mode, h_hand, h_follows, h_hasMaster, h_isStarved, h_held, h_sum, h_lastError, h_lastRate, h_experiment, h_center, h_height, h_band, h_isUp, h_gone, h_risings, h_second, h_greatest, h_least, h_period, h_swing, h_gain, h_past, h_go, h_sched, h_i_lim, h_i_gb, h_i_md, h_i_dt, h_i_me, h_i_st, h_i_up, h_i_gl, h_i_sw, h_i_rl, h_i_m0⟩
    · show (f_X6_setGuard_j1_1 2 guv shv) = f_L_setGuard_r guv shv
      rw [hcd]; unfold f_L_setGuard_r; rw [if_neg hc]
    · show ¬ f_L_setGuard_r guv shv = 0
      unfold f_L_setGuard_r; rw [if_neg hc]; exact w12_n hc
    · show e3 (f_X6_setGuard_m_guard (ym_m_guard M) 2 guv shv) (yl_kgu T.1) (yl_kgu T.2.1) (f_L_setGuard_kgu (yl_kgu T.2.2) guv shv)
      simp only [f_L_setGuard_kgu, f_X6_setGuard_m_guard, if_neg hc, if_pos hz]
      exact h_guard
    · show e3 (f_X6_setGuard_m_share (ym_m_share M) 2 guv shv) (yl_ksh T.1) (yl_ksh T.2.1) (f_L_setGuard_ksh (yl_ksh T.2.2) guv shv)
      simp only [f_L_setGuard_ksh, f_X6_setGuard_m_share, if_neg hc, if_pos hz]
      exact h_share
theorem rel_setGuard (hR : Rel T bs M) (lp : Int32) (guv : Int32) (shv : Int32) (uo : Nat → Int64) : rm_thrown (um_setGuard M lp guv shv) = ofL T lp (fun s => lr_setGuard s guv shv) 1 ∧ (ofL T lp (fun s => lr_setGuard s guv shv) 1 = 0 → (ofL T lp (fun s => lo_setGuard s uo guv shv) uo) (0 : Int32).toNatClampNeg = (rm_setGuard M lp guv shv).toInt64) ∧ Rel (onL T lp (fun s => lu_setGuard s guv shv)) bs (um_setGuard M lp guv shv) := by
  by_cases h0 : lp = 0
  · subst h0
    rw [ofL_0, ofL_0, onL_0]
    exact rel_setGuard_0 hR guv shv uo
  by_cases h1 : lp = 1
  · subst h1
    rw [ofL_1, ofL_1, onL_1]
    exact rel_setGuard_1 hR guv shv uo
  by_cases h2 : lp = 2
  · subst h2
    rw [ofL_2, ofL_2, onL_2]
    exact rel_setGuard_2 hR guv shv uo
  rw [ofL_o T _ _ h0 h1 h2, ofL_o T _ _ h0 h1 h2, onL_o T _ h0 h1 h2]
  have hcd : (f_X6_setGuard_j1_1 lp guv shv) = 1 := by simp only [f_X6_setGuard_j1_1, il_o h0 h1 h2]; rfl
  have hz : f_X6_can_j1_1 (f_X6_setGuard_j1_1 lp guv shv) = 0 := can_no (by rw [hcd]; decide)
  obtain ⟨h_bs, h_a1, h_a2, h_b, h_deadTime, h_load, h_measure, h_before, h_low, h_high, h_setpoint, h_integral, h_guard, h_share, h_mode, h_hand, h_follows, h_hasMaster, h_isStarved, h_held, h_sum, h_lastError, h_lastRate, h_experiment, h_center, h_height, h_band, h_isUp, h_gone, h_risings, h_second, h_greatest, h_least, h_period, h_swing, h_gain, h_past, h_go, h_sched, h_i_lim, h_i_gb, h_i_md, h_i_dt, h_i_me, h_i_st, h_i_up, h_i_gl, h_i_sw, h_i_rl, h_i_m0⟩ := Rel_iff.mp hR
  refine ⟨hcd, fun h => absurd h (by decide), h_bs, h_a1, h_a2, h_b, h_deadTime, h_load, h_measure, h_before, h_low, h_high, h_setpoint, h_integral, ?_, ?_, h_mode, h_hand, h_follows, h_hasMaster, h_isStarved, h_held, h_sum, h_lastError, h_lastRate, h_experiment, h_center, h_height, h_band, h_isUp, h_gone, h_risings, h_second, h_greatest, h_least, h_period, h_swing, h_gain, h_past, h_go, h_sched, h_i_lim, h_i_gb, h_i_md, h_i_dt, h_i_me, h_i_st, h_i_up, h_i_gl, h_i_sw, h_i_rl, h_i_m0⟩
  · show e3 (f_X6_setGuard_m_guard (ym_m_guard M) lp guv shv) (yl_kgu T.1) (yl_kgu T.2.1) (yl_kgu T.2.2)
    simp only [f_X6_setGuard_m_guard, if_pos hz]
    exact h_guard
  · show e3 (f_X6_setGuard_m_share (ym_m_share M) lp guv shv) (yl_ksh T.1) (yl_ksh T.2.1) (yl_ksh T.2.2)
    simp only [f_X6_setGuard_m_share, if_pos hz]
    exact h_share
set_option maxHeartbeats 1000000 in
theorem rel_setSetpoint_0 (hR : Rel T bs M) (spv : Int32) (uo : Nat → Int64) : rm_thrown (um_setSetpoint M 0 spv) = lr_setSetpoint T.1 spv ∧ (lr_setSetpoint T.1 spv = 0 → lo_setSetpoint T.1 uo spv (0 : Int32).toNatClampNeg = (rm_setSetpoint M 0 spv).toInt64) ∧ Rel ((lu_setSetpoint T.1 spv), T.2.1, T.2.2) bs (um_setSetpoint M 0 spv) := by
  obtain ⟨h_bs, h_a1, h_a2, h_b, h_deadTime, h_load, h_measure, h_before, h_low, h_high, h_setpoint, h_integral, h_guard, h_share, h_mode, h_hand, h_follows, h_hasMaster, h_isStarved, h_held, h_sum, h_lastError, h_lastRate, h_experiment, h_center, h_height, h_band, h_isUp, h_gone, h_risings, h_second, h_greatest, h_least, h_period, h_swing, h_gain, h_past, h_go, h_sched, h_i_lim, h_i_gb, h_i_md, h_i_dt, h_i_me, h_i_st, h_i_up, h_i_gl, h_i_sw, h_i_rl, h_i_m0⟩ := Rel_iff.mp hR
  have hcd : (f_X6_setSetpoint_j1_1 (ym_m_mode M) 0 spv) = wr123 (f_X5_setSetpoint_x (yl_lmo T.1) spv) := cd_setSetpoint il_0 (h_mode.1)
  by_cases hc : (f_X5_setSetpoint_x (yl_lmo T.1) spv) = 0
  · have hz : ¬ f_X6_can_j1_1 (f_X6_setSetpoint_j1_1 (ym_m_mode M) 0 spv) = 0 := can_ok (by rw [hcd]; exact w123_0 hc)
    refine ⟨?_, fun _ => ?_, h_bs, h_a1, h_a2, h_b, h_deadTime, h_load, h_measure, h_before, h_low, h_high, ?_, h_integral, h_guard, h_share, h_mode, h_hand, h_follows, h_hasMaster, h_isStarved, h_held, h_sum, h_lastError, h_lastRate, h_experiment, h_center, h_height, h_band, h_isUp, h_gone, h_risings, h_second, h_greatest, h_least, h_period, h_swing, h_gain, h_past, h_go, h_sched, h_i_lim, h_i_gb, h_i_md, h_i_dt, h_i_me, h_i_st, h_i_up, h_i_gl, h_i_sw, h_i_rl, h_i_m0⟩
    · show (f_X6_setSetpoint_j1_1 (ym_m_mode M) 0 spv) = f_L_setSetpoint_r (yl_lmo T.1) spv
      rw [hcd]; unfold f_L_setSetpoint_r; rw [if_pos hc]; exact w123_0 hc
    · show (f_L_setSetpoint_uo (yl_lmo T.1) (yl_ksp T.1) uo spv) (0 : Int32).toNatClampNeg = (f_X6_setSetpoint_r (ym_m_setpoint M) (ym_m_mode M) 0 spv).toInt64
      simp only [f_L_setSetpoint_uo, f_X6_setSetpoint_r, if_pos hc, if_neg hz]
      rw [ul_eq]
      exact congrArg (fun z => (Int64.toInt32 z).toInt64) (h_setpoint.1).symm
    · show e3 (f_X6_setSetpoint_m_setpoint (ym_m_setpoint M) (ym_m_mode M) 0 spv) (f_L_setSetpoint_ksp (yl_lmo T.1) (yl_ksp T.1) spv) (yl_ksp T.2.1) (yl_ksp T.2.2)
      simp only [f_L_setSetpoint_ksp, f_X6_setSetpoint_m_setpoint, if_pos hc, if_neg hz]
      exact ⟨(ul_eq _ _ _), ((ul_ne _ _ (by decide)).trans h_setpoint.2.1), ((ul_ne _ _ (by decide)).trans h_setpoint.2.2)⟩
  · have hz : f_X6_can_j1_1 (f_X6_setSetpoint_j1_1 (ym_m_mode M) 0 spv) = 0 := can_no (by rw [hcd]; exact w123_n hc)
    refine ⟨?_, fun h => absurd h ?_, h_bs, h_a1, h_a2, h_b, h_deadTime, h_load, h_measure, h_before, h_low, h_high, ?_, h_integral, h_guard, h_share, h_mode, h_hand, h_follows, h_hasMaster, h_isStarved, h_held, h_sum, h_lastError, h_lastRate, h_experiment, h_center, h_height, h_band, h_isUp, h_gone, h_risings, h_second, h_greatest, h_least, h_period, h_swing, h_gain, h_past, h_go, h_sched, h_i_lim, h_i_gb, h_i_md, h_i_dt, h_i_me, h_i_st, h_i_up, h_i_gl, h_i_sw, h_i_rl, h_i_m0⟩
    · show (f_X6_setSetpoint_j1_1 (ym_m_mode M) 0 spv) = f_L_setSetpoint_r (yl_lmo T.1) spv
      rw [hcd]; unfold f_L_setSetpoint_r; rw [if_neg hc]
    · show ¬ f_L_setSetpoint_r (yl_lmo T.1) spv = 0
      unfold f_L_setSetpoint_r; rw [if_neg hc]; exact w123_n hc
    · show e3 (f_X6_setSetpoint_m_setpoint (ym_m_setpoint M) (ym_m_mode M) 0 spv) (f_L_setSetpoint_ksp (yl_lmo T.1) (yl_ksp T.1) spv) (yl_ksp T.2.1) (yl_ksp T.2.2)
      simp only [f_L_setSetpoint_ksp, f_X6_setSetpoint_m_setpoint, if_neg hc, if_pos hz]
      exact h_setpoint
set_option maxHeartbeats 1000000 in
theorem rel_setSetpoint_1 (hR : Rel T bs M) (spv : Int32) (uo : Nat → Int64) : rm_thrown (um_setSetpoint M 1 spv) = lr_setSetpoint T.2.1 spv ∧ (lr_setSetpoint T.2.1 spv = 0 → lo_setSetpoint T.2.1 uo spv (0 : Int32).toNatClampNeg = (rm_setSetpoint M 1 spv).toInt64) ∧ Rel (T.1, (lu_setSetpoint T.2.1 spv), T.2.2) bs (um_setSetpoint M 1 spv) := by
  obtain ⟨h_bs, h_a1, h_a2, h_b, h_deadTime, h_load, h_measure, h_before, h_low, h_high, h_setpoint, h_integral, h_guard, h_share, h_mode, h_hand, h_follows, h_hasMaster, h_isStarved, h_held, h_sum, h_lastError, h_lastRate, h_experiment, h_center, h_height, h_band, h_isUp, h_gone, h_risings, h_second, h_greatest, h_least, h_period, h_swing, h_gain, h_past, h_go, h_sched, h_i_lim, h_i_gb, h_i_md, h_i_dt, h_i_me, h_i_st, h_i_up, h_i_gl, h_i_sw, h_i_rl, h_i_m0⟩ := Rel_iff.mp hR
  have hcd : (f_X6_setSetpoint_j1_1 (ym_m_mode M) 1 spv) = wr123 (f_X5_setSetpoint_x (yl_lmo T.2.1) spv) := cd_setSetpoint il_1 (h_mode.2.1)
  by_cases hc : (f_X5_setSetpoint_x (yl_lmo T.2.1) spv) = 0
  · have hz : ¬ f_X6_can_j1_1 (f_X6_setSetpoint_j1_1 (ym_m_mode M) 1 spv) = 0 := can_ok (by rw [hcd]; exact w123_0 hc)
    refine ⟨?_, fun _ => ?_, h_bs, h_a1, h_a2, h_b, h_deadTime, h_load, h_measure, h_before, h_low, h_high, ?_, h_integral, h_guard, h_share, h_mode, h_hand, h_follows, h_hasMaster, h_isStarved, h_held, h_sum, h_lastError, h_lastRate, h_experiment, h_center, h_height, h_band, h_isUp, h_gone, h_risings, h_second, h_greatest, h_least, h_period, h_swing, h_gain, h_past, h_go, h_sched, h_i_lim, h_i_gb, h_i_md, h_i_dt, h_i_me, h_i_st, h_i_up, h_i_gl, h_i_sw, h_i_rl, h_i_m0⟩
    · show (f_X6_setSetpoint_j1_1 (ym_m_mode M) 1 spv) = f_L_setSetpoint_r (yl_lmo T.2.1) spv
      rw [hcd]; unfold f_L_setSetpoint_r; rw [if_pos hc]; exact w123_0 hc
    · show (f_L_setSetpoint_uo (yl_lmo T.2.1) (yl_ksp T.2.1) uo spv) (0 : Int32).toNatClampNeg = (f_X6_setSetpoint_r (ym_m_setpoint M) (ym_m_mode M) 1 spv).toInt64
      simp only [f_L_setSetpoint_uo, f_X6_setSetpoint_r, if_pos hc, if_neg hz]
      rw [ul_eq]
      exact congrArg (fun z => (Int64.toInt32 z).toInt64) (h_setpoint.2.1).symm
    · show e3 (f_X6_setSetpoint_m_setpoint (ym_m_setpoint M) (ym_m_mode M) 1 spv) (yl_ksp T.1) (f_L_setSetpoint_ksp (yl_lmo T.2.1) (yl_ksp T.2.1) spv) (yl_ksp T.2.2)
      simp only [f_L_setSetpoint_ksp, f_X6_setSetpoint_m_setpoint, if_pos hc, if_neg hz]
      exact ⟨((ul_ne _ _ (by decide)).trans h_setpoint.1), (ul_eq _ _ _), ((ul_ne _ _ (by decide)).trans h_setpoint.2.2)⟩
  · have hz : f_X6_can_j1_1 (f_X6_setSetpoint_j1_1 (ym_m_mode M) 1 spv) = 0 := can_no (by rw [hcd]; exact w123_n hc)
    refine ⟨?_, fun h => absurd h ?_, h_bs, h_a1, h_a2, h_b, h_deadTime, h_load, h_measure, h_before, h_low, h_high, ?_, h_integral, h_guard, h_share, h_mode, h_hand, h_follows, h_hasMaster, h_isStarved, h_held, h_sum, h_lastError, h_lastRate, h_experiment, h_center, h_height, h_band, h_isUp, h_gone, h_risings, h_second, h_greatest, h_least, h_period, h_swing, h_gain, h_past, h_go, h_sched, h_i_lim, h_i_gb, h_i_md, h_i_dt, h_i_me, h_i_st, h_i_up, h_i_gl, h_i_sw, h_i_rl, h_i_m0⟩
    · show (f_X6_setSetpoint_j1_1 (ym_m_mode M) 1 spv) = f_L_setSetpoint_r (yl_lmo T.2.1) spv
      rw [hcd]; unfold f_L_setSetpoint_r; rw [if_neg hc]
    · show ¬ f_L_setSetpoint_r (yl_lmo T.2.1) spv = 0
      unfold f_L_setSetpoint_r; rw [if_neg hc]; exact w123_n hc
    · show e3 (f_X6_setSetpoint_m_setpoint (ym_m_setpoint M) (ym_m_mode M) 1 spv) (yl_ksp T.1) (f_L_setSetpoint_ksp (yl_lmo T.2.1) (yl_ksp T.2.1) spv) (yl_ksp T.2.2)
      simp only [f_L_setSetpoint_ksp, f_X6_setSetpoint_m_setpoint, if_neg hc, if_pos hz]
      exact h_setpoint
set_option maxHeartbeats 1000000 in
theorem rel_setSetpoint_2 (hR : Rel T bs M) (spv : Int32) (uo : Nat → Int64) : rm_thrown (um_setSetpoint M 2 spv) = lr_setSetpoint T.2.2 spv ∧ (lr_setSetpoint T.2.2 spv = 0 → lo_setSetpoint T.2.2 uo spv (0 : Int32).toNatClampNeg = (rm_setSetpoint M 2 spv).toInt64) ∧ Rel (T.1, T.2.1, (lu_setSetpoint T.2.2 spv)) bs (um_setSetpoint M 2 spv) := by
  obtain ⟨h_bs, h_a1, h_a2, h_b, h_deadTime, h_load, h_measure, h_before, h_low, h_high, h_setpoint, h_integral, h_guard, h_share, h_mode, h_hand, h_follows, h_hasMaster, h_isStarved, h_held, h_sum, h_lastError, h_lastRate, h_experiment, h_center, h_height, h_band, h_isUp, h_gone, h_risings, h_second, h_greatest, h_least, h_period, h_swing, h_gain, h_past, h_go, h_sched, h_i_lim, h_i_gb, h_i_md, h_i_dt, h_i_me, h_i_st, h_i_up, h_i_gl, h_i_sw, h_i_rl, h_i_m0⟩ := Rel_iff.mp hR
  have hcd : (f_X6_setSetpoint_j1_1 (ym_m_mode M) 2 spv) = wr123 (f_X5_setSetpoint_x (yl_lmo T.2.2) spv) := cd_setSetpoint il_2 (h_mode.2.2)
  by_cases hc : (f_X5_setSetpoint_x (yl_lmo T.2.2) spv) = 0
  · have hz : ¬ f_X6_can_j1_1 (f_X6_setSetpoint_j1_1 (ym_m_mode M) 2 spv) = 0 := can_ok (by rw [hcd]; exact w123_0 hc)
    refine ⟨?_, fun _ => ?_, h_bs, h_a1, h_a2, h_b, h_deadTime, h_load, h_measure, h_before, h_low, h_high, ?_, h_integral, h_guard, h_share, h_mode, h_hand, h_follows, h_hasMaster, h_isStarved, h_held, h_sum, h_lastError, h_lastRate, h_experiment, h_center, h_height, h_band, h_isUp, h_gone, h_risings, h_second, h_greatest, h_least, h_period, h_swing, h_gain, h_past, h_go, h_sched, h_i_lim, h_i_gb, h_i_md, h_i_dt, h_i_me, h_i_st, h_i_up, h_i_gl, h_i_sw, h_i_rl, h_i_m0⟩
    · show (f_X6_setSetpoint_j1_1 (ym_m_mode M) 2 spv) = f_L_setSetpoint_r (yl_lmo T.2.2) spv
      rw [hcd]; unfold f_L_setSetpoint_r; rw [if_pos hc]; exact w123_0 hc
    · show (f_L_setSetpoint_uo (yl_lmo T.2.2) (yl_ksp T.2.2) uo spv) (0 : Int32).toNatClampNeg = (f_X6_setSetpoint_r (ym_m_setpoint M) (ym_m_mode M) 2 spv).toInt64
      simp only [f_L_setSetpoint_uo, f_X6_setSetpoint_r, if_pos hc, if_neg hz]
      rw [ul_eq]
      exact congrArg (fun z => (Int64.toInt32 z).toInt64) (h_setpoint.2.2).symm
    · show e3 (f_X6_setSetpoint_m_setpoint (ym_m_setpoint M) (ym_m_mode M) 2 spv) (yl_ksp T.1) (yl_ksp T.2.1) (f_L_setSetpoint_ksp (yl_lmo T.2.2) (yl_ksp T.2.2) spv)
      simp only [f_L_setSetpoint_ksp, f_X6_setSetpoint_m_setpoint, if_pos hc, if_neg hz]
      exact ⟨((ul_ne _ _ (by decide)).trans h_setpoint.1), ((ul_ne _ _ (by decide)).trans h_setpoint.2.1), (ul_eq _ _ _)⟩
  · have hz : f_X6_can_j1_1 (f_X6_setSetpoint_j1_1 (ym_m_mode M) 2 spv) = 0 := can_no (by rw [hcd]; exact w123_n hc)
    refine ⟨?_, fun h => absurd h ?_, h_bs, h_a1, h_a2, h_b, h_deadTime, h_load, h_measure, h_before, h_low, h_high, ?_, h_integral, h_guard, h_share, h_mode, h_hand, h_follows, h_hasMaster, h_isStarved, h_held, h_sum, h_lastError, h_lastRate, h_experiment, h_center, h_height, h_band, h_isUp, h_gone, h_risings, h_second, h_greatest, h_least, h_period, h_swing, h_gain, h_past, h_go, h_sched, h_i_lim, h_i_gb, h_i_md, h_i_dt, h_i_me, h_i_st, h_i_up, h_i_gl, h_i_sw, h_i_rl, h_i_m0⟩
    · show (f_X6_setSetpoint_j1_1 (ym_m_mode M) 2 spv) = f_L_setSetpoint_r (yl_lmo T.2.2) spv
      rw [hcd]; unfold f_L_setSetpoint_r; rw [if_neg hc]
    · show ¬ f_L_setSetpoint_r (yl_lmo T.2.2) spv = 0
      unfold f_L_setSetpoint_r; rw [if_neg hc]; exact w123_n hc
    · show e3 (f_X6_setSetpoint_m_setpoint (ym_m_setpoint M) (ym_m_mode M) 2 spv) (yl_ksp T.1) (yl_ksp T.2.1) (f_L_setSetpoint_ksp (yl_lmo T.2.2) (yl_ksp T.2.2) spv)
      simp only [f_L_setSetpoint_ksp, f_X6_setSetpoint_m_setpoint, if_neg hc, if_pos hz]
      exact h_setpoint
theorem rel_setSetpoint (hR : Rel T bs M) (lp : Int32) (spv : Int32) (uo : Nat → Int64) : rm_thrown (um_setSetpoint M lp spv) = ofL T lp (fun s => lr_setSetpoint s spv) 1 ∧ (ofL T lp (fun s => lr_setSetpoint s spv) 1 = 0 → (ofL T lp (fun s => lo_setSetpoint s uo spv) uo) (0 : Int32).toNatClampNeg = (rm_setSetpoint M lp spv).toInt64) ∧ Rel (onL T lp (fun s => lu_setSetpoint s spv)) bs (um_setSetpoint M lp spv) := by
  by_cases h0 : lp = 0
  · subst h0
    rw [ofL_0, ofL_0, onL_0]
    exact rel_setSetpoint_0 hR spv uo
  by_cases h1 : lp = 1
  · subst h1
    rw [ofL_1, ofL_1, onL_1]
    exact rel_setSetpoint_1 hR spv uo
  by_cases h2 : lp = 2
  · subst h2
    rw [ofL_2, ofL_2, onL_2]
    exact rel_setSetpoint_2 hR spv uo
  rw [ofL_o T _ _ h0 h1 h2, ofL_o T _ _ h0 h1 h2, onL_o T _ h0 h1 h2]
  have hcd : (f_X6_setSetpoint_j1_1 (ym_m_mode M) lp spv) = 1 := by simp only [f_X6_setSetpoint_j1_1, il_o h0 h1 h2]; rfl
  have hz : f_X6_can_j1_1 (f_X6_setSetpoint_j1_1 (ym_m_mode M) lp spv) = 0 := can_no (by rw [hcd]; decide)
  obtain ⟨h_bs, h_a1, h_a2, h_b, h_deadTime, h_load, h_measure, h_before, h_low, h_high, h_setpoint, h_integral, h_guard, h_share, h_mode, h_hand, h_follows, h_hasMaster, h_isStarved, h_held, h_sum, h_lastError, h_lastRate, h_experiment, h_center, h_height, h_band, h_isUp, h_gone, h_risings, h_second, h_greatest, h_least, h_period, h_swing, h_gain, h_past, h_go, h_sched, h_i_lim, h_i_gb, h_i_md, h_i_dt, h_i_me, h_i_st, h_i_up, h_i_gl, h_i_sw, h_i_rl, h_i_m0⟩ := Rel_iff.mp hR
  refine ⟨hcd, fun h => absurd h (by decide), h_bs, h_a1, h_a2, h_b, h_deadTime, h_load, h_measure, h_before, h_low, h_high, ?_, h_integral, h_guard, h_share, h_mode, h_hand, h_follows, h_hasMaster, h_isStarved, h_held, h_sum, h_lastError, h_lastRate, h_experiment, h_center, h_height, h_band, h_isUp, h_gone, h_risings, h_second, h_greatest, h_least, h_period, h_swing, h_gain, h_past, h_go, h_sched, h_i_lim, h_i_gb, h_i_md, h_i_dt, h_i_me, h_i_st, h_i_up, h_i_gl, h_i_sw, h_i_rl, h_i_m0⟩
  · show e3 (f_X6_setSetpoint_m_setpoint (ym_m_setpoint M) (ym_m_mode M) lp spv) (yl_ksp T.1) (yl_ksp T.2.1) (yl_ksp T.2.2)
    simp only [f_X6_setSetpoint_m_setpoint, if_pos hz]
    exact h_setpoint
set_option maxHeartbeats 1000000 in
theorem rel_setHand_0 (hR : Rel T bs M) (hav : Int32) (uo : Nat → Int64) : rm_thrown (um_setHand M 0 hav) = lr_setHand T.1 hav ∧ (lr_setHand T.1 hav = 0 → lo_setHand T.1 uo hav (0 : Int32).toNatClampNeg = (rm_setHand M 0 hav).toInt64) ∧ Rel ((lu_setHand T.1 hav), T.2.1, T.2.2) bs (um_setHand M 0 hav) := by
  obtain ⟨h_bs, h_a1, h_a2, h_b, h_deadTime, h_load, h_measure, h_before, h_low, h_high, h_setpoint, h_integral, h_guard, h_share, h_mode, h_hand, h_follows, h_hasMaster, h_isStarved, h_held, h_sum, h_lastError, h_lastRate, h_experiment, h_center, h_height, h_band, h_isUp, h_gone, h_risings, h_second, h_greatest, h_least, h_period, h_swing, h_gain, h_past, h_go, h_sched, h_i_lim, h_i_gb, h_i_md, h_i_dt, h_i_me, h_i_st, h_i_up, h_i_gl, h_i_sw, h_i_rl, h_i_m0⟩ := Rel_iff.mp hR
  have hcd : (f_X6_setHand_j1_1 (ym_m_mode M) 0 hav) = wr123 (f_X5_setHand_x (yl_lmo T.1) hav) := cd_setHand il_0 (h_mode.1)
  by_cases hc : (f_X5_setHand_x (yl_lmo T.1) hav) = 0
  · have hz : ¬ f_X6_can_j1_1 (f_X6_setHand_j1_1 (ym_m_mode M) 0 hav) = 0 := can_ok (by rw [hcd]; exact w123_0 hc)
    refine ⟨?_, fun _ => ?_, h_bs, h_a1, h_a2, h_b, h_deadTime, h_load, h_measure, h_before, h_low, h_high, h_setpoint, h_integral, h_guard, h_share, h_mode, ?_, h_follows, h_hasMaster, h_isStarved, h_held, h_sum, h_lastError, h_lastRate, h_experiment, h_center, h_height, h_band, h_isUp, h_gone, h_risings, h_second, h_greatest, h_least, h_period, h_swing, h_gain, h_past, h_go, h_sched, h_i_lim, h_i_gb, h_i_md, h_i_dt, h_i_me, h_i_st, h_i_up, h_i_gl, h_i_sw, h_i_rl, h_i_m0⟩
    · show (f_X6_setHand_j1_1 (ym_m_mode M) 0 hav) = f_L_setHand_r (yl_lmo T.1) hav
      rw [hcd]; unfold f_L_setHand_r; rw [if_pos hc]; exact w123_0 hc
    · show (f_L_setHand_uo (yl_lmo T.1) (yl_lha T.1) uo hav) (0 : Int32).toNatClampNeg = (f_X6_setHand_r (ym_m_mode M) (ym_m_hand M) 0 hav).toInt64
      simp only [f_L_setHand_uo, f_X6_setHand_r, if_pos hc, if_neg hz]
      rw [ul_eq]
      exact congrArg (fun z => (Int64.toInt32 z).toInt64) (h_hand.1).symm
    · show e3 (f_X6_setHand_m_hand (ym_m_mode M) (ym_m_hand M) 0 hav) (f_L_setHand_lha (yl_lmo T.1) (yl_lha T.1) hav) (yl_lha T.2.1) (yl_lha T.2.2)
      simp only [f_L_setHand_lha, f_X6_setHand_m_hand, if_pos hc, if_neg hz]
      exact ⟨(ul_eq _ _ _), ((ul_ne _ _ (by decide)).trans h_hand.2.1), ((ul_ne _ _ (by decide)).trans h_hand.2.2)⟩
  · have hz : f_X6_can_j1_1 (f_X6_setHand_j1_1 (ym_m_mode M) 0 hav) = 0 := can_no (by rw [hcd]; exact w123_n hc)
    refine ⟨?_, fun h => absurd h ?_, h_bs, h_a1, h_a2, h_b, h_deadTime, h_load, h_measure, h_before, h_low, h_high, h_setpoint, h_integral, h_guard, h_share, h_mode, ?_, h_follows, h_hasMaster, h_isStarved, h_held, h_sum, h_lastError, h_lastRate, h_experiment, h_center, h_height, h_band, h_isUp, h_gone, h_risings, h_second, h_greatest, h_least, h_period, h_swing, h_gain, h_past, h_go, h_sched, h_i_lim, h_i_gb, h_i_md, h_i_dt, h_i_me, h_i_st, h_i_up, h_i_gl, h_i_sw, h_i_rl, h_i_m0⟩
    · show (f_X6_setHand_j1_1 (ym_m_mode M) 0 hav) = f_L_setHand_r (yl_lmo T.1) hav
      rw [hcd]; unfold f_L_setHand_r; rw [if_neg hc]
    · show ¬ f_L_setHand_r (yl_lmo T.1) hav = 0
      unfold f_L_setHand_r; rw [if_neg hc]; exact w123_n hc
    · show e3 (f_X6_setHand_m_hand (ym_m_mode M) (ym_m_hand M) 0 hav) (f_L_setHand_lha (yl_lmo T.1) (yl_lha T.1) hav) (yl_lha T.2.1) (yl_lha T.2.2)
      simp only [f_L_setHand_lha, f_X6_setHand_m_hand, if_neg hc, if_pos hz]
      exact h_hand
set_option maxHeartbeats 1000000 in
theorem rel_setHand_1 (hR : Rel T bs M) (hav : Int32) (uo : Nat → Int64) : rm_thrown (um_setHand M 1 hav) = lr_setHand T.2.1 hav ∧ (lr_setHand T.2.1 hav = 0 → lo_setHand T.2.1 uo hav (0 : Int32).toNatClampNeg = (rm_setHand M 1 hav).toInt64) ∧ Rel (T.1, (lu_setHand T.2.1 hav), T.2.2) bs (um_setHand M 1 hav) := by
  obtain ⟨h_bs, h_a1, h_a2, h_b, h_deadTime, h_load, h_measure, h_before, h_low, h_high, h_setpoint, h_integral, h_guard, h_share, h_mode, h_hand, h_follows, h_hasMaster, h_isStarved, h_held, h_sum, h_lastError, h_lastRate, h_experiment, h_center, h_height, h_band, h_isUp, h_gone, h_risings, h_second, h_greatest, h_least, h_period, h_swing, h_gain, h_past, h_go, h_sched, h_i_lim, h_i_gb, h_i_md, h_i_dt, h_i_me, h_i_st, h_i_up, h_i_gl, h_i_sw, h_i_rl, h_i_m0⟩ := Rel_iff.mp hR
  have hcd : (f_X6_setHand_j1_1 (ym_m_mode M) 1 hav) = wr123 (f_X5_setHand_x (yl_lmo T.2.1) hav) := cd_setHand il_1 (h_mode.2.1)
  by_cases hc : (f_X5_setHand_x (yl_lmo T.2.1) hav) = 0
  · have hz : ¬ f_X6_can_j1_1 (f_X6_setHand_j1_1 (ym_m_mode M) 1 hav) = 0 := can_ok (by rw [hcd]; exact w123_0 hc)
    refine ⟨?_, fun _ => ?_, h_bs, h_a1, h_a2, h_b, h_deadTime, h_load, h_measure, h_before, h_low, h_high, h_setpoint, h_integral, h_guard, h_share, h_mode, ?_, h_follows, h_hasMaster, h_isStarved, h_held, h_sum, h_lastError, h_lastRate, h_experiment, h_center, h_height, h_band, h_isUp, h_gone, h_risings, h_second, h_greatest, h_least, h_period, h_swing, h_gain, h_past, h_go, h_sched, h_i_lim, h_i_gb, h_i_md, h_i_dt, h_i_me, h_i_st, h_i_up, h_i_gl, h_i_sw, h_i_rl, h_i_m0⟩
    · show (f_X6_setHand_j1_1 (ym_m_mode M) 1 hav) = f_L_setHand_r (yl_lmo T.2.1) hav
      rw [hcd]; unfold f_L_setHand_r; rw [if_pos hc]; exact w123_0 hc
    · show (f_L_setHand_uo (yl_lmo T.2.1) (yl_lha T.2.1) uo hav) (0 : Int32).toNatClampNeg = (f_X6_setHand_r (ym_m_mode M) (ym_m_hand M) 1 hav).toInt64
      simp only [f_L_setHand_uo, f_X6_setHand_r, if_pos hc, if_neg hz]
      rw [ul_eq]
      exact congrArg (fun z => (Int64.toInt32 z).toInt64) (h_hand.2.1).symm
    · show e3 (f_X6_setHand_m_hand (ym_m_mode M) (ym_m_hand M) 1 hav) (yl_lha T.1) (f_L_setHand_lha (yl_lmo T.2.1) (yl_lha T.2.1) hav) (yl_lha T.2.2)
      simp only [f_L_setHand_lha, f_X6_setHand_m_hand, if_pos hc, if_neg hz]
      exact ⟨((ul_ne _ _ (by decide)).trans h_hand.1), (ul_eq _ _ _), ((ul_ne _ _ (by decide)).trans h_hand.2.2)⟩
  · have hz : f_X6_can_j1_1 (f_X6_setHand_j1_1 (ym_m_mode M) 1 hav) = 0 := can_no (by rw [hcd]; exact w123_n hc)
    refine ⟨?_, fun h => absurd h ?_, h_bs, h_a1, h_a2, h_b, h_deadTime, h_load, h_measure, h_before, h_low, h_high, h_setpoint, h_integral, h_guard, h_share, h_mode, ?_, h_follows, h_hasMaster, h_isStarved, h_held, h_sum, h_lastError, h_lastRate, h_experiment, h_center, h_height, h_band, h_isUp, h_gone, h_risings, h_second, h_greatest, h_least, h_period, h_swing, h_gain, h_past, h_go, h_sched, h_i_lim, h_i_gb, h_i_md, h_i_dt, h_i_me, h_i_st, h_i_up, h_i_gl, h_i_sw, h_i_rl, h_i_m0⟩
    · show (f_X6_setHand_j1_1 (ym_m_mode M) 1 hav) = f_L_setHand_r (yl_lmo T.2.1) hav
      rw [hcd]; unfold f_L_setHand_r; rw [if_neg hc]
    · show ¬ f_L_setHand_r (yl_lmo T.2.1) hav = 0
      unfold f_L_setHand_r; rw [if_neg hc]; exact w123_n hc
    · show e3 (f_X6_setHand_m_hand (ym_m_mode M) (ym_m_hand M) 1 hav) (yl_lha T.1) (f_L_setHand_lha (yl_lmo T.2.1) (yl_lha T.2.1) hav) (yl_lha T.2.2)
      simp only [f_L_setHand_lha, f_X6_setHand_m_hand, if_neg hc, if_pos hz]
      exact h_hand
set_option maxHeartbeats 1000000 in
theorem rel_setHand_2 (hR : Rel T bs M) (hav : Int32) (uo : Nat → Int64) : rm_thrown (um_setHand M 2 hav) = lr_setHand T.2.2 hav ∧ (lr_setHand T.2.2 hav = 0 → lo_setHand T.2.2 uo hav (0 : Int32).toNatClampNeg = (rm_setHand M 2 hav).toInt64) ∧ Rel (T.1, T.2.1, (lu_setHand T.2.2 hav)) bs (um_setHand M 2 hav) := by
  obtain ⟨h_bs, h_a1, h_a2, h_b, h_deadTime, h_load, h_measure, h_before, h_low, h_high, h_setpoint, h_integral, h_guard, h_share, h_mode, h_hand, h_follows, h_hasMaster, h_isStarved, h_held, h_sum, h_lastError, h_lastRate, h_experiment, h_center, h_height, h_band, h_isUp, h_gone, h_risings, h_second, h_greatest, h_least, h_period, h_swing, h_gain, h_past, h_go, h_sched, h_i_lim, h_i_gb, h_i_md, h_i_dt, h_i_me, h_i_st, h_i_up, h_i_gl, h_i_sw, h_i_rl, h_i_m0⟩ := Rel_iff.mp hR
  have hcd : (f_X6_setHand_j1_1 (ym_m_mode M) 2 hav) = wr123 (f_X5_setHand_x (yl_lmo T.2.2) hav) := cd_setHand il_2 (h_mode.2.2)
  by_cases hc : (f_X5_setHand_x (yl_lmo T.2.2) hav) = 0
  · have hz : ¬ f_X6_can_j1_1 (f_X6_setHand_j1_1 (ym_m_mode M) 2 hav) = 0 := can_ok (by rw [hcd]; exact w123_0 hc)
    refine ⟨?_, fun _ => ?_, h_bs, h_a1, h_a2, h_b, h_deadTime, h_load, h_measure, h_before, h_low, h_high, h_setpoint, h_integral, h_guard, h_share, h_mode, ?_, h_follows, h_hasMaster, h_isStarved, h_held, h_sum, h_lastError, h_lastRate, h_experiment, h_center, h_height, h_band, h_isUp, h_gone, h_risings, h_second, h_greatest, h_least, h_period, h_swing, h_gain, h_past, h_go, h_sched, h_i_lim, h_i_gb, h_i_md, h_i_dt, h_i_me, h_i_st, h_i_up, h_i_gl, h_i_sw, h_i_rl, h_i_m0⟩
    · show (f_X6_setHand_j1_1 (ym_m_mode M) 2 hav) = f_L_setHand_r (yl_lmo T.2.2) hav
      rw [hcd]; unfold f_L_setHand_r; rw [if_pos hc]; exact w123_0 hc
    · show (f_L_setHand_uo (yl_lmo T.2.2) (yl_lha T.2.2) uo hav) (0 : Int32).toNatClampNeg = (f_X6_setHand_r (ym_m_mode M) (ym_m_hand M) 2 hav).toInt64
      simp only [f_L_setHand_uo, f_X6_setHand_r, if_pos hc, if_neg hz]
      rw [ul_eq]
      exact congrArg (fun z => (Int64.toInt32 z).toInt64) (h_hand.2.2).symm
    · show e3 (f_X6_setHand_m_hand (ym_m_mode M) (ym_m_hand M) 2 hav) (yl_lha T.1) (yl_lha T.2.1) (f_L_setHand_lha (yl_lmo T.2.2) (yl_lha T.2.2) hav)
      simp only [f_L_setHand_lha, f_X6_setHand_m_hand, if_pos hc, if_neg hz]
      exact ⟨((ul_ne _ _ (by decide)).trans h_hand.1), ((ul_ne _ _ (by decide)).trans h_hand.2.1), (ul_eq _ _ _)⟩
  · have hz : f_X6_can_j1_1 (f_X6_setHand_j1_1 (ym_m_mode M) 2 hav) = 0 := can_no (by rw [hcd]; exact w123_n hc)
    refine ⟨?_, fun h => absurd h ?_, h_bs, h_a1, h_a2, h_b, h_deadTime, h_load, h_measure, h_before, h_low, h_high, h_setpoint, h_integral, h_guard, h_share, h_mode, ?_, h_follows, h_hasMaster, h_isStarved, h_held, h_sum, h_lastError, h_lastRate, h_experiment, h_center, h_height, h_band, h_isUp, h_gone, h_risings, h_second, h_greatest, h_least, h_period, h_swing, h_gain, h_past, h_go, h_sched, h_i_lim, h_i_gb, h_i_md, h_i_dt, h_i_me, h_i_st, h_i_up, h_i_gl, h_i_sw, h_i_rl, h_i_m0⟩
    · show (f_X6_setHand_j1_1 (ym_m_mode M) 2 hav) = f_L_setHand_r (yl_lmo T.2.2) hav
      rw [hcd]; unfold f_L_setHand_r; rw [if_neg hc]
    · show ¬ f_L_setHand_r (yl_lmo T.2.2) hav = 0
      unfold f_L_setHand_r; rw [if_neg hc]; exact w123_n hc
    · show e3 (f_X6_setHand_m_hand (ym_m_mode M) (ym_m_hand M) 2 hav) (yl_lha T.1) (yl_lha T.2.1) (f_L_setHand_lha (yl_lmo T.2.2) (yl_lha T.2.2) hav)
      simp only [f_L_setHand_lha, f_X6_setHand_m_hand, if_neg hc, if_pos hz]
      exact h_hand
theorem rel_setHand (hR : Rel T bs M) (lp : Int32) (hav : Int32) (uo : Nat → Int64) : rm_thrown (um_setHand M lp hav) = ofL T lp (fun s => lr_setHand s hav) 1 ∧ (ofL T lp (fun s => lr_setHand s hav) 1 = 0 → (ofL T lp (fun s => lo_setHand s uo hav) uo) (0 : Int32).toNatClampNeg = (rm_setHand M lp hav).toInt64) ∧ Rel (onL T lp (fun s => lu_setHand s hav)) bs (um_setHand M lp hav) := by
  by_cases h0 : lp = 0
  · subst h0
    rw [ofL_0, ofL_0, onL_0]
    exact rel_setHand_0 hR hav uo
  by_cases h1 : lp = 1
  · subst h1
    rw [ofL_1, ofL_1, onL_1]
    exact rel_setHand_1 hR hav uo
  by_cases h2 : lp = 2
  · subst h2
    rw [ofL_2, ofL_2, onL_2]
    exact rel_setHand_2 hR hav uo
  rw [ofL_o T _ _ h0 h1 h2, ofL_o T _ _ h0 h1 h2, onL_o T _ h0 h1 h2]
  have hcd : (f_X6_setHand_j1_1 (ym_m_mode M) lp hav) = 1 := by simp only [f_X6_setHand_j1_1, il_o h0 h1 h2]; rfl
  have hz : f_X6_can_j1_1 (f_X6_setHand_j1_1 (ym_m_mode M) lp hav) = 0 := can_no (by rw [hcd]; decide)
  obtain ⟨h_bs, h_a1, h_a2, h_b, h_deadTime, h_load, h_measure, h_before, h_low, h_high, h_setpoint, h_integral, h_guard, h_share, h_mode, h_hand, h_follows, h_hasMaster, h_isStarved, h_held, h_sum, h_lastError, h_lastRate, h_experiment, h_center, h_height, h_band, h_isUp, h_gone, h_risings, h_second, h_greatest, h_least, h_period, h_swing, h_gain, h_past, h_go, h_sched, h_i_lim, h_i_gb, h_i_md, h_i_dt, h_i_me, h_i_st, h_i_up, h_i_gl, h_i_sw, h_i_rl, h_i_m0⟩ := Rel_iff.mp hR
  refine ⟨hcd, fun h => absurd h (by decide), h_bs, h_a1, h_a2, h_b, h_deadTime, h_load, h_measure, h_before, h_low, h_high, h_setpoint, h_integral, h_guard, h_share, h_mode, ?_, h_follows, h_hasMaster, h_isStarved, h_held, h_sum, h_lastError, h_lastRate, h_experiment, h_center, h_height, h_band, h_isUp, h_gone, h_risings, h_second, h_greatest, h_least, h_period, h_swing, h_gain, h_past, h_go, h_sched, h_i_lim, h_i_gb, h_i_md, h_i_dt, h_i_me, h_i_st, h_i_up, h_i_gl, h_i_sw, h_i_rl, h_i_m0⟩
  · show e3 (f_X6_setHand_m_hand (ym_m_mode M) (ym_m_hand M) lp hav) (yl_lha T.1) (yl_lha T.2.1) (yl_lha T.2.2)
    simp only [f_X6_setHand_m_hand, if_pos hz]
    exact h_hand
set_option maxHeartbeats 1000000 in
theorem rel_setTies_0 (hR : Rel T bs M) (fov : Int32) (mav : Int32) (hzf : vp_nar .boolean fov = fov) (hzm : vp_nar .boolean mav = mav) : rm_thrown (um_setTies M 0 fov mav) = lr_setTies T.1 0 fov mav ∧ Rel ((lu_setTies T.1 0 fov mav), T.2.1, T.2.2) bs (um_setTies M 0 fov mav) := by
  obtain ⟨h_bs, h_a1, h_a2, h_b, h_deadTime, h_load, h_measure, h_before, h_low, h_high, h_setpoint, h_integral, h_guard, h_share, h_mode, h_hand, h_follows, h_hasMaster, h_isStarved, h_held, h_sum, h_lastError, h_lastRate, h_experiment, h_center, h_height, h_band, h_isUp, h_gone, h_risings, h_second, h_greatest, h_least, h_period, h_swing, h_gain, h_past, h_go, h_sched, h_i_lim, h_i_gb, h_i_md, h_i_dt, h_i_me, h_i_st, h_i_up, h_i_gl, h_i_sw, h_i_rl, h_i_m0⟩ := Rel_iff.mp hR
  have hcd : (f_X6_setTies_j1_1 (ym_m_mode M) 0 mav) = wr123 (f_X5_setTies_x (yl_lmo T.1) 0 mav) := cd_setTies il_0 (h_mode.1)
  by_cases hc : (f_X5_setTies_x (yl_lmo T.1) 0 mav) = 0
  · have hz : ¬ f_X6_can_j1_1 (f_X6_setTies_j1_1 (ym_m_mode M) 0 mav) = 0 := can_ok (by rw [hcd]; exact w123_0 hc)
    refine ⟨?_, h_bs, h_a1, h_a2, h_b, h_deadTime, h_load, h_measure, h_before, h_low, h_high, h_setpoint, h_integral, h_guard, h_share, h_mode, h_hand, ?_, ?_, h_isStarved, h_held, h_sum, h_lastError, h_lastRate, h_experiment, h_center, h_height, h_band, h_isUp, h_gone, h_risings, h_second, h_greatest, h_least, h_period, h_swing, h_gain, h_past, h_go, h_sched, h_i_lim, h_i_gb, h_i_md, h_i_dt, h_i_me, h_i_st, h_i_up, h_i_gl, h_i_sw, h_i_rl, ?_⟩
    · show (f_X6_setTies_j1_1 (ym_m_mode M) 0 mav) = f_L_setTies_r (yl_lmo T.1) 0 mav
      rw [hcd]; unfold f_L_setTies_r; rw [if_pos hc]; exact w123_0 hc
    · show e3 (f_X6_setTies_j2_1 (ym_m_mode M) (ym_m_follows M) 0 fov mav) (f_L_setTies_lfo (yl_lmo T.1) (yl_lfo T.1) 0 fov mav) (yl_lfo T.2.1) (yl_lfo T.2.2)
      simp only [f_L_setTies_lfo, f_X6_setTies_j2_1, if_pos hc, if_neg hz]
      rw [hzf]
      exact ⟨(u_eq _ _ _), ((u_ne _ _ (by decide)).trans h_follows.2.1), ((u_ne _ _ (by decide)).trans h_follows.2.2)⟩
    · show e3 (f_X6_setTies_j2_2 (ym_m_mode M) (ym_m_hasMaster M) 0 mav) (f_L_setTies_lma (yl_lmo T.1) (yl_lma T.1) 0 mav) (yl_lma T.2.1) (yl_lma T.2.2)
      simp only [f_L_setTies_lma, f_X6_setTies_j2_2, if_pos hc, if_neg hz]
      rw [hzm]
      exact ⟨(u_eq _ _ _), ((u_ne _ _ (by decide)).trans h_hasMaster.2.1), ((u_ne _ _ (by decide)).trans h_hasMaster.2.2)⟩
    · show Im0 (yl_lmo T.1) (f_L_setTies_lma (yl_lmo T.1) (yl_lma T.1) 0 mav)
      simp only [f_L_setTies_lma, if_pos hc]
      exact ⟨h_i_m0.1, st_ok hc⟩
  · have hz : f_X6_can_j1_1 (f_X6_setTies_j1_1 (ym_m_mode M) 0 mav) = 0 := can_no (by rw [hcd]; exact w123_n hc)
    refine ⟨?_, h_bs, h_a1, h_a2, h_b, h_deadTime, h_load, h_measure, h_before, h_low, h_high, h_setpoint, h_integral, h_guard, h_share, h_mode, h_hand, ?_, ?_, h_isStarved, h_held, h_sum, h_lastError, h_lastRate, h_experiment, h_center, h_height, h_band, h_isUp, h_gone, h_risings, h_second, h_greatest, h_least, h_period, h_swing, h_gain, h_past, h_go, h_sched, h_i_lim, h_i_gb, h_i_md, h_i_dt, h_i_me, h_i_st, h_i_up, h_i_gl, h_i_sw, h_i_rl, ?_⟩
    · show (f_X6_setTies_j1_1 (ym_m_mode M) 0 mav) = f_L_setTies_r (yl_lmo T.1) 0 mav
      rw [hcd]; unfold f_L_setTies_r; rw [if_neg hc]
    · show e3 (f_X6_setTies_j2_1 (ym_m_mode M) (ym_m_follows M) 0 fov mav) (f_L_setTies_lfo (yl_lmo T.1) (yl_lfo T.1) 0 fov mav) (yl_lfo T.2.1) (yl_lfo T.2.2)
      simp only [f_L_setTies_lfo, f_X6_setTies_j2_1, if_neg hc, if_pos hz]
      exact h_follows
    · show e3 (f_X6_setTies_j2_2 (ym_m_mode M) (ym_m_hasMaster M) 0 mav) (f_L_setTies_lma (yl_lmo T.1) (yl_lma T.1) 0 mav) (yl_lma T.2.1) (yl_lma T.2.2)
      simp only [f_L_setTies_lma, f_X6_setTies_j2_2, if_neg hc, if_pos hz]
      exact h_hasMaster
    · show Im0 (yl_lmo T.1) (f_L_setTies_lma (yl_lmo T.1) (yl_lma T.1) 0 mav)
      simp only [f_L_setTies_lma, if_neg hc]
      exact h_i_m0
set_option maxHeartbeats 1000000 in
theorem rel_setTies_1 (hR : Rel T bs M) (fov : Int32) (mav : Int32) (hzf : vp_nar .boolean fov = fov) (hzm : vp_nar .boolean mav = mav) : rm_thrown (um_setTies M 1 fov mav) = lr_setTies T.2.1 1 fov mav ∧ Rel (T.1, (lu_setTies T.2.1 1 fov mav), T.2.2) bs (um_setTies M 1 fov mav) := by
  obtain ⟨h_bs, h_a1, h_a2, h_b, h_deadTime, h_load, h_measure, h_before, h_low, h_high, h_setpoint, h_integral, h_guard, h_share, h_mode, h_hand, h_follows, h_hasMaster, h_isStarved, h_held, h_sum, h_lastError, h_lastRate, h_experiment, h_center, h_height, h_band, h_isUp, h_gone, h_risings, h_second, h_greatest, h_least, h_period, h_swing, h_gain, h_past, h_go, h_sched, h_i_lim, h_i_gb, h_i_md, h_i_dt, h_i_me, h_i_st, h_i_up, h_i_gl, h_i_sw, h_i_rl, h_i_m0⟩ := Rel_iff.mp hR
  have hcd : (f_X6_setTies_j1_1 (ym_m_mode M) 1 mav) = wr123 (f_X5_setTies_x (yl_lmo T.2.1) 1 mav) := cd_setTies il_1 (h_mode.2.1)
  by_cases hc : (f_X5_setTies_x (yl_lmo T.2.1) 1 mav) = 0
  · have hz : ¬ f_X6_can_j1_1 (f_X6_setTies_j1_1 (ym_m_mode M) 1 mav) = 0 := can_ok (by rw [hcd]; exact w123_0 hc)
    refine ⟨?_, h_bs, h_a1, h_a2, h_b, h_deadTime, h_load, h_measure, h_before, h_low, h_high, h_setpoint, h_integral, h_guard, h_share, h_mode, h_hand, ?_, ?_, h_isStarved, h_held, h_sum, h_lastError, h_lastRate, h_experiment, h_center, h_height, h_band, h_isUp, h_gone, h_risings, h_second, h_greatest, h_least, h_period, h_swing, h_gain, h_past, h_go, h_sched, h_i_lim, h_i_gb, h_i_md, h_i_dt, h_i_me, h_i_st, h_i_up, h_i_gl, h_i_sw, h_i_rl, h_i_m0⟩
    · show (f_X6_setTies_j1_1 (ym_m_mode M) 1 mav) = f_L_setTies_r (yl_lmo T.2.1) 1 mav
      rw [hcd]; unfold f_L_setTies_r; rw [if_pos hc]; exact w123_0 hc
    · show e3 (f_X6_setTies_j2_1 (ym_m_mode M) (ym_m_follows M) 1 fov mav) (yl_lfo T.1) (f_L_setTies_lfo (yl_lmo T.2.1) (yl_lfo T.2.1) 1 fov mav) (yl_lfo T.2.2)
      simp only [f_L_setTies_lfo, f_X6_setTies_j2_1, if_pos hc, if_neg hz]
      rw [hzf]
      exact ⟨((u_ne _ _ (by decide)).trans h_follows.1), (u_eq _ _ _), ((u_ne _ _ (by decide)).trans h_follows.2.2)⟩
    · show e3 (f_X6_setTies_j2_2 (ym_m_mode M) (ym_m_hasMaster M) 1 mav) (yl_lma T.1) (f_L_setTies_lma (yl_lmo T.2.1) (yl_lma T.2.1) 1 mav) (yl_lma T.2.2)
      simp only [f_L_setTies_lma, f_X6_setTies_j2_2, if_pos hc, if_neg hz]
      rw [hzm]
      exact ⟨((u_ne _ _ (by decide)).trans h_hasMaster.1), (u_eq _ _ _), ((u_ne _ _ (by decide)).trans h_hasMaster.2.2)⟩
  · have hz : f_X6_can_j1_1 (f_X6_setTies_j1_1 (ym_m_mode M) 1 mav) = 0 := can_no (by rw [hcd]; exact w123_n hc)
    refine ⟨?_, h_bs, h_a1, h_a2, h_b, h_deadTime, h_load, h_measure, h_before, h_low, h_high, h_setpoint, h_integral, h_guard, h_share, h_mode, h_hand, ?_, ?_, h_isStarved, h_held, h_sum, h_lastError, h_lastRate, h_experiment, h_center, h_height, h_band, h_isUp, h_gone, h_risings, h_second, h_greatest, h_least, h_period, h_swing, h_gain, h_past, h_go, h_sched, h_i_lim, h_i_gb, h_i_md, h_i_dt, h_i_me, h_i_st, h_i_up, h_i_gl, h_i_sw, h_i_rl, h_i_m0⟩
    · show (f_X6_setTies_j1_1 (ym_m_mode M) 1 mav) = f_L_setTies_r (yl_lmo T.2.1) 1 mav
      rw [hcd]; unfold f_L_setTies_r; rw [if_neg hc]
    · show e3 (f_X6_setTies_j2_1 (ym_m_mode M) (ym_m_follows M) 1 fov mav) (yl_lfo T.1) (f_L_setTies_lfo (yl_lmo T.2.1) (yl_lfo T.2.1) 1 fov mav) (yl_lfo T.2.2)
      simp only [f_L_setTies_lfo, f_X6_setTies_j2_1, if_neg hc, if_pos hz]
      exact h_follows
    · show e3 (f_X6_setTies_j2_2 (ym_m_mode M) (ym_m_hasMaster M) 1 mav) (yl_lma T.1) (f_L_setTies_lma (yl_lmo T.2.1) (yl_lma T.2.1) 1 mav) (yl_lma T.2.2)
      simp only [f_L_setTies_lma, f_X6_setTies_j2_2, if_neg hc, if_pos hz]
      exact h_hasMaster
set_option maxHeartbeats 1000000 in
theorem rel_setTies_2 (hR : Rel T bs M) (fov : Int32) (mav : Int32) (hzf : vp_nar .boolean fov = fov) (hzm : vp_nar .boolean mav = mav) : rm_thrown (um_setTies M 2 fov mav) = lr_setTies T.2.2 2 fov mav ∧ Rel (T.1, T.2.1, (lu_setTies T.2.2 2 fov mav)) bs (um_setTies M 2 fov mav) := by
  obtain ⟨h_bs, h_a1, h_a2, h_b, h_deadTime, h_load, h_measure, h_before, h_low, h_high, h_setpoint, h_integral, h_guard, h_share, h_mode, h_hand, h_follows, h_hasMaster, h_isStarved, h_held, h_sum, h_lastError, h_lastRate, h_experiment, h_center, h_height, h_band, h_isUp, h_gone, h_risings, h_second, h_greatest, h_least, h_period, h_swing, h_gain, h_past, h_go, h_sched, h_i_lim, h_i_gb, h_i_md, h_i_dt, h_i_me, h_i_st, h_i_up, h_i_gl, h_i_sw, h_i_rl, h_i_m0⟩ := Rel_iff.mp hR
  have hcd : (f_X6_setTies_j1_1 (ym_m_mode M) 2 mav) = wr123 (f_X5_setTies_x (yl_lmo T.2.2) 2 mav) := cd_setTies il_2 (h_mode.2.2)
  by_cases hc : (f_X5_setTies_x (yl_lmo T.2.2) 2 mav) = 0
  · have hz : ¬ f_X6_can_j1_1 (f_X6_setTies_j1_1 (ym_m_mode M) 2 mav) = 0 := can_ok (by rw [hcd]; exact w123_0 hc)
    refine ⟨?_, h_bs, h_a1, h_a2, h_b, h_deadTime, h_load, h_measure, h_before, h_low, h_high, h_setpoint, h_integral, h_guard, h_share, h_mode, h_hand, ?_, ?_, h_isStarved, h_held, h_sum, h_lastError, h_lastRate, h_experiment, h_center, h_height, h_band, h_isUp, h_gone, h_risings, h_second, h_greatest, h_least, h_period, h_swing, h_gain, h_past, h_go, h_sched, h_i_lim, h_i_gb, h_i_md, h_i_dt, h_i_me, h_i_st, h_i_up, h_i_gl, h_i_sw, h_i_rl, h_i_m0⟩
    · show (f_X6_setTies_j1_1 (ym_m_mode M) 2 mav) = f_L_setTies_r (yl_lmo T.2.2) 2 mav
      rw [hcd]; unfold f_L_setTies_r; rw [if_pos hc]; exact w123_0 hc
    · show e3 (f_X6_setTies_j2_1 (ym_m_mode M) (ym_m_follows M) 2 fov mav) (yl_lfo T.1) (yl_lfo T.2.1) (f_L_setTies_lfo (yl_lmo T.2.2) (yl_lfo T.2.2) 2 fov mav)
      simp only [f_L_setTies_lfo, f_X6_setTies_j2_1, if_pos hc, if_neg hz]
      rw [hzf]
      exact ⟨((u_ne _ _ (by decide)).trans h_follows.1), ((u_ne _ _ (by decide)).trans h_follows.2.1), (u_eq _ _ _)⟩
    · show e3 (f_X6_setTies_j2_2 (ym_m_mode M) (ym_m_hasMaster M) 2 mav) (yl_lma T.1) (yl_lma T.2.1) (f_L_setTies_lma (yl_lmo T.2.2) (yl_lma T.2.2) 2 mav)
      simp only [f_L_setTies_lma, f_X6_setTies_j2_2, if_pos hc, if_neg hz]
      rw [hzm]
      exact ⟨((u_ne _ _ (by decide)).trans h_hasMaster.1), ((u_ne _ _ (by decide)).trans h_hasMaster.2.1), (u_eq _ _ _)⟩
  · have hz : f_X6_can_j1_1 (f_X6_setTies_j1_1 (ym_m_mode M) 2 mav) = 0 := can_no (by rw [hcd]; exact w123_n hc)
    refine ⟨?_, h_bs, h_a1, h_a2, h_b, h_deadTime, h_load, h_measure, h_before, h_low, h_high, h_setpoint, h_integral, h_guard, h_share, h_mode, h_hand, ?_, ?_, h_isStarved, h_held, h_sum, h_lastError, h_lastRate, h_experiment, h_center, h_height, h_band, h_isUp, h_gone, h_risings, h_second, h_greatest, h_least, h_period, h_swing, h_gain, h_past, h_go, h_sched, h_i_lim, h_i_gb, h_i_md, h_i_dt, h_i_me, h_i_st, h_i_up, h_i_gl, h_i_sw, h_i_rl, h_i_m0⟩
    · show (f_X6_setTies_j1_1 (ym_m_mode M) 2 mav) = f_L_setTies_r (yl_lmo T.2.2) 2 mav
      rw [hcd]; unfold f_L_setTies_r; rw [if_neg hc]
    · show e3 (f_X6_setTies_j2_1 (ym_m_mode M) (ym_m_follows M) 2 fov mav) (yl_lfo T.1) (yl_lfo T.2.1) (f_L_setTies_lfo (yl_lmo T.2.2) (yl_lfo T.2.2) 2 fov mav)
      simp only [f_L_setTies_lfo, f_X6_setTies_j2_1, if_neg hc, if_pos hz]
      exact h_follows
    · show e3 (f_X6_setTies_j2_2 (ym_m_mode M) (ym_m_hasMaster M) 2 mav) (yl_lma T.1) (yl_lma T.2.1) (f_L_setTies_lma (yl_lmo T.2.2) (yl_lma T.2.2) 2 mav)
      simp only [f_L_setTies_lma, f_X6_setTies_j2_2, if_neg hc, if_pos hz]
      exact h_hasMaster
theorem rel_setTies (hR : Rel T bs M) (lp : Int32) (fov : Int32) (mav : Int32) (hzf : vp_nar .boolean fov = fov) (hzm : vp_nar .boolean mav = mav) : rm_thrown (um_setTies M lp fov mav) = ofL T lp (fun s => lr_setTies s lp fov mav) 1 ∧ Rel (onL T lp (fun s => lu_setTies s lp fov mav)) bs (um_setTies M lp fov mav) := by
  by_cases h0 : lp = 0
  · subst h0
    rw [ofL_0, onL_0]
    exact rel_setTies_0 hR fov mav hzf hzm
  by_cases h1 : lp = 1
  · subst h1
    rw [ofL_1, onL_1]
    exact rel_setTies_1 hR fov mav hzf hzm
  by_cases h2 : lp = 2
  · subst h2
    rw [ofL_2, onL_2]
    exact rel_setTies_2 hR fov mav hzf hzm
  rw [ofL_o T _ _ h0 h1 h2, onL_o T _ h0 h1 h2]
  have hcd : (f_X6_setTies_j1_1 (ym_m_mode M) lp mav) = 1 := by simp only [f_X6_setTies_j1_1, il_o h0 h1 h2]; rfl
  have hz : f_X6_can_j1_1 (f_X6_setTies_j1_1 (ym_m_mode M) lp mav) = 0 := can_no (by rw [hcd]; decide)
  obtain ⟨h_bs, h_a1, h_a2, h_b, h_deadTime, h_load, h_measure, h_before, h_low, h_high, h_setpoint, h_integral, h_guard, h_share, h_mode, h_hand, h_follows, h_hasMaster, h_isStarved, h_held, h_sum, h_lastError, h_lastRate, h_experiment, h_center, h_height, h_band, h_isUp, h_gone, h_risings, h_second, h_greatest, h_least, h_period, h_swing, h_gain, h_past, h_go, h_sched, h_i_lim, h_i_gb, h_i_md, h_i_dt, h_i_me, h_i_st, h_i_up, h_i_gl, h_i_sw, h_i_rl, h_i_m0⟩ := Rel_iff.mp hR
  refine ⟨hcd, h_bs, h_a1, h_a2, h_b, h_deadTime, h_load, h_measure, h_before, h_low, h_high, h_setpoint, h_integral, h_guard, h_share, h_mode, h_hand, ?_, ?_, h_isStarved, h_held, h_sum, h_lastError, h_lastRate, h_experiment, h_center, h_height, h_band, h_isUp, h_gone, h_risings, h_second, h_greatest, h_least, h_period, h_swing, h_gain, h_past, h_go, h_sched, h_i_lim, h_i_gb, h_i_md, h_i_dt, h_i_me, h_i_st, h_i_up, h_i_gl, h_i_sw, h_i_rl, h_i_m0⟩
  · show e3 (f_X6_setTies_j2_1 (ym_m_mode M) (ym_m_follows M) lp fov mav) (yl_lfo T.1) (yl_lfo T.2.1) (yl_lfo T.2.2)
    simp only [f_X6_setTies_j2_1, if_pos hz]
    exact h_follows
  · show e3 (f_X6_setTies_j2_2 (ym_m_mode M) (ym_m_hasMaster M) lp mav) (yl_lma T.1) (yl_lma T.2.1) (yl_lma T.2.2)
    simp only [f_X6_setTies_j2_2, if_pos hz]
    exact h_hasMaster
set_option maxHeartbeats 1000000 in
theorem rel_setMode_0 (hR : Rel T bs M) (mov : Int32) (uo : Nat → Int64) : rm_thrown (um_setMode M 0 mov) = lr_setMode T.1 mov ∧ (lr_setMode T.1 mov = 0 → lo_setMode T.1 uo mov (0 : Int32).toNatClampNeg = (rm_setMode M 0 mov).toInt64) ∧ Rel ((lu_setMode T.1 mov), T.2.1, T.2.2) bs (um_setMode M 0 mov) := by
  obtain ⟨h_bs, h_a1, h_a2, h_b, h_deadTime, h_load, h_measure, h_before, h_low, h_high, h_setpoint, h_integral, h_guard, h_share, h_mode, h_hand, h_follows, h_hasMaster, h_isStarved, h_held, h_sum, h_lastError, h_lastRate, h_experiment, h_center, h_height, h_band, h_isUp, h_gone, h_risings, h_second, h_greatest, h_least, h_period, h_swing, h_gain, h_past, h_go, h_sched, h_i_lim, h_i_gb, h_i_md, h_i_dt, h_i_me, h_i_st, h_i_up, h_i_gl, h_i_sw, h_i_rl, h_i_m0⟩ := Rel_iff.mp hR
  have hcd : (f_X6_setMode_j1_1 (ym_m_mode M) (ym_m_hasMaster M) 0 mov) = wr123 (f_X5_setMode_x (yl_lmo T.1) (yl_lma T.1) mov) := cd_setMode il_0 (h_mode.1) (h_hasMaster.1)
  by_cases hc : (f_X5_setMode_x (yl_lmo T.1) (yl_lma T.1) mov) = 0
  · have hz : ¬ f_X6_can_j1_1 (f_X6_setMode_j1_1 (ym_m_mode M) (ym_m_hasMaster M) 0 mov) = 0 := can_ok (by rw [hcd]; exact w123_0 hc)
    refine ⟨?_, fun _ => ?_, h_bs, h_a1, h_a2, h_b, h_deadTime, h_load, h_measure, h_before, h_low, h_high, h_setpoint, ?_, h_guard, h_share, ?_, ?_, h_follows, h_hasMaster, h_isStarved, h_held, h_sum, h_lastError, h_lastRate, ?_, h_center, h_height, h_band, h_isUp, h_gone, h_risings, h_second, h_greatest, h_least, h_period, h_swing, h_gain, h_past, ?_, h_sched, h_i_lim, h_i_gb, ?_, h_i_dt, h_i_me, h_i_st, h_i_up, h_i_gl, h_i_sw, ?_, ?_⟩
    · show (f_X6_setMode_j1_1 (ym_m_mode M) (ym_m_hasMaster M) 0 mov) = f_L_setMode_r (yl_lmo T.1) (yl_lma T.1) mov
      rw [hcd]; unfold f_L_setMode_r; rw [if_pos hc]; exact w123_0 hc
    · show (f_L_setMode_uo (yl_lmo T.1) (yl_lma T.1) uo mov) (0 : Int32).toNatClampNeg = (f_X6_setMode_r (ym_m_mode M) (ym_m_hasMaster M) 0 mov).toInt64
      simp only [f_L_setMode_uo, f_X6_setMode_r, if_pos hc, if_neg hz]
      rw [ul_eq]
      exact congrArg Int32.toInt64 (h_mode.1).symm
    · show e3 (f_X6_setMode_m_integral (ym_m_measure M) (ym_m_before M) (ym_m_past M) (ym_m_gain M) (ym_m_setpoint M) (ym_m_integral M) (ym_m_mode M) (ym_m_hasMaster M) 0 mov) (f_L_setMode_kig (yl_lmo T.1) (yl_lma T.1) (yl_lou T.1) (yl_kp T.1) (yl_kd T.1) (yl_ksp T.1) (yl_kig T.1) (yl_pme T.1) (yl_pmb T.1) mov) (yl_kig T.2.1) (yl_kig T.2.2)
      simp only [f_L_setMode_kig, f_X6_setMode_m_integral, if_pos hc, if_neg hz]
      simp only [f_X6_setMode_j5_1, f_X6_setMode_j2_1, f_X1_changeMode_kig, f_X1_changeMode_j1_2]
      by_cases a : (yl_lmo T.1) = mov
      · have hm : ym_m_mode M (0 : Int32).toNatClampNeg = (yl_lmo T.1) := h_mode.1
        rw [hm, if_pos a, if_pos a.symm]; exact h_integral
      by_cases b : (yl_lmo T.1) = 0
      · have hm : ym_m_mode M (0 : Int32).toNatClampNeg = (yl_lmo T.1) := h_mode.1
        have c : ¬ mov = 0 := fun q => a (b.trans q.symm)
        have a2 : ¬ mov = (yl_lmo T.1) := fun q => a q.symm
        rw [hm, if_neg a, if_neg a2, if_pos b, if_neg c, if_pos b, stl_eq (n := 0) (h_gain.1) (h_gain.2.2.1) (h_setpoint.1) (h_measure.1) (h_before.1) (show f_X6_latest_r (ym_m_past M) 0 = (yl_lou T.1) from (rp_out (h_past.1)).symm)]
        exact ⟨(ul_eq _ _ _), ((ul_ne _ _ (by decide)).trans h_integral.2.1), ((ul_ne _ _ (by decide)).trans h_integral.2.2)⟩
      by_cases c : mov = 0
      · have hm : ym_m_mode M (0 : Int32).toNatClampNeg = (yl_lmo T.1) := h_mode.1
        have a2 : ¬ mov = (yl_lmo T.1) := fun q => a q.symm
        rw [hm, if_neg a, if_neg a2, if_neg b, if_pos c]; exact h_integral
      · have hm : ym_m_mode M (0 : Int32).toNatClampNeg = (yl_lmo T.1) := h_mode.1
        have a2 : ¬ mov = (yl_lmo T.1) := fun q => a q.symm
        rw [hm, if_neg a, if_neg a2, if_neg b, if_neg c, if_neg b]; exact h_integral
    · show e3 (f_X6_setMode_m_mode (ym_m_mode M) (ym_m_hasMaster M) 0 mov) (f_L_setMode_lmo (yl_lmo T.1) (yl_lma T.1) mov) (yl_lmo T.2.1) (yl_lmo T.2.2)
      simp only [f_L_setMode_lmo, f_X6_setMode_m_mode, if_pos hc, if_neg hz]
      simp only [f_X6_setMode_j5_2, f_X1_changeMode_lmo]
      by_cases a : (yl_lmo T.1) = mov
      · have hm : ym_m_mode M (0 : Int32).toNatClampNeg = (yl_lmo T.1) := h_mode.1
        rw [hm, if_pos a, if_pos a.symm]; exact h_mode
      by_cases b : (yl_lmo T.1) = 0
      · have hm : ym_m_mode M (0 : Int32).toNatClampNeg = (yl_lmo T.1) := h_mode.1
        have a2 : ¬ mov = (yl_lmo T.1) := fun q => a q.symm
        rw [hm, if_neg a, if_neg a2]
        exact ⟨(u_eq _ _ _), ((u_ne _ _ (by decide)).trans h_mode.2.1), ((u_ne _ _ (by decide)).trans h_mode.2.2)⟩
      by_cases c : mov = 0
      · have hm : ym_m_mode M (0 : Int32).toNatClampNeg = (yl_lmo T.1) := h_mode.1
        have a2 : ¬ mov = (yl_lmo T.1) := fun q => a q.symm
        rw [hm, if_neg a, if_neg a2]
        exact ⟨(u_eq _ _ _), ((u_ne _ _ (by decide)).trans h_mode.2.1), ((u_ne _ _ (by decide)).trans h_mode.2.2)⟩
      · have hm : ym_m_mode M (0 : Int32).toNatClampNeg = (yl_lmo T.1) := h_mode.1
        have a2 : ¬ mov = (yl_lmo T.1) := fun q => a q.symm
        rw [hm, if_neg a, if_neg a2]
        exact ⟨(u_eq _ _ _), ((u_ne _ _ (by decide)).trans h_mode.2.1), ((u_ne _ _ (by decide)).trans h_mode.2.2)⟩
    · show e3 (f_X6_setMode_m_hand (ym_m_past M) (ym_m_mode M) (ym_m_hand M) (ym_m_hasMaster M) 0 mov) (f_L_setMode_lha (yl_lmo T.1) (yl_lha T.1) (yl_lma T.1) (yl_lou T.1) mov) (yl_lha T.2.1) (yl_lha T.2.2)
      simp only [f_L_setMode_lha, f_X6_setMode_m_hand, if_pos hc, if_neg hz]
      simp only [f_X6_setMode_j5_3, f_X6_setMode_j4_1, f_X1_changeMode_lha, f_X1_changeMode_j1_1]
      by_cases a : (yl_lmo T.1) = mov
      · have hm : ym_m_mode M (0 : Int32).toNatClampNeg = (yl_lmo T.1) := h_mode.1
        rw [hm, if_pos a, if_pos a.symm]; exact h_hand
      by_cases b : (yl_lmo T.1) = 0
      · have hm : ym_m_mode M (0 : Int32).toNatClampNeg = (yl_lmo T.1) := h_mode.1
        have c : ¬ mov = 0 := fun q => a (b.trans q.symm)
        have a2 : ¬ mov = (yl_lmo T.1) := fun q => a q.symm
        rw [hm, if_neg a, if_neg a2, if_neg c, if_neg c]; exact h_hand
      by_cases c : mov = 0
      · have hm : ym_m_mode M (0 : Int32).toNatClampNeg = (yl_lmo T.1) := h_mode.1
        have a2 : ¬ mov = (yl_lmo T.1) := fun q => a q.symm
        rw [hm, if_neg a, if_neg a2, if_pos c, if_pos c, show f_X6_latest_r (ym_m_past M) 0 = (yl_lou T.1) from (rp_out (h_past.1)).symm]
        exact ⟨(ul_eq _ _ _), ((ul_ne _ _ (by decide)).trans h_hand.2.1), ((ul_ne _ _ (by decide)).trans h_hand.2.2)⟩
      · have hm : ym_m_mode M (0 : Int32).toNatClampNeg = (yl_lmo T.1) := h_mode.1
        have a2 : ¬ mov = (yl_lmo T.1) := fun q => a q.symm
        rw [hm, if_neg a, if_neg a2, if_neg c, if_neg c]; exact h_hand
    · show e3 (f_X6_setMode_m_experiment (ym_m_mode M) (ym_m_hasMaster M) (ym_m_experiment M) 0 mov) (f_L_setMode_rpr (yl_lmo T.1) (yl_lma T.1) (yl_rpr T.1) mov) (yl_rpr T.2.1) (yl_rpr T.2.2)
      simp only [f_L_setMode_rpr, f_X6_setMode_m_experiment, if_pos hc, if_neg hz]
      simp only [f_X6_setMode_j5_5, f_X6_setMode_j4_2, f_X6_setMode_j3_1, f_X1_changeMode_rpr, f_X1_changeMode_j1_4, f_X1_goToHand_j1_1]
      by_cases a : (yl_lmo T.1) = mov
      · have hm : ym_m_mode M (0 : Int32).toNatClampNeg = (yl_lmo T.1) := h_mode.1
        rw [hm, if_pos a, if_pos a.symm]; exact h_experiment
      by_cases b : (yl_lmo T.1) = 0
      · have hm : ym_m_mode M (0 : Int32).toNatClampNeg = (yl_lmo T.1) := h_mode.1
        have c : ¬ mov = 0 := fun q => a (b.trans q.symm)
        have a2 : ¬ mov = (yl_lmo T.1) := fun q => a q.symm
        rw [hm, if_neg a, if_neg a2, if_neg c, if_neg c]; exact h_experiment
      by_cases c : mov = 0
      · have hm : ym_m_mode M (0 : Int32).toNatClampNeg = (yl_lmo T.1) := h_mode.1
        have a2 : ¬ mov = (yl_lmo T.1) := fun q => a q.symm
        rw [hm, if_neg a, if_neg a2, if_pos c, if_pos c, show ym_m_experiment M (0 : Int32).toNatClampNeg = (yl_rpr T.1) from h_experiment.1]
        exact ⟨(u_eq _ _ _), ((u_ne _ _ (by decide)).trans h_experiment.2.1), ((u_ne _ _ (by decide)).trans h_experiment.2.2)⟩
      · have hm : ym_m_mode M (0 : Int32).toNatClampNeg = (yl_lmo T.1) := h_mode.1
        have a2 : ¬ mov = (yl_lmo T.1) := fun q => a q.symm
        rw [hm, if_neg a, if_neg a2, if_neg c, if_neg c]; exact h_experiment
    · show (Rgo (f_L_setMode_lmo (yl_lmo T.1) (yl_lma T.1) mov) (f_L_setMode_kgo (yl_lmo T.1) (yl_lma T.1) (yl_kgo T.1) mov) ((f_X6_setMode_m_goesOn (ym_m_mode M) (ym_m_hasMaster M) (ym_m_goesOn M) 0 mov) 0)) ∧ (Rgo (yl_lmo T.2.1) (yl_kgo T.2.1) ((f_X6_setMode_m_goesOn (ym_m_mode M) (ym_m_hasMaster M) (ym_m_goesOn M) 0 mov) 1)) ∧ (Rgo (yl_lmo T.2.2) (yl_kgo T.2.2) ((f_X6_setMode_m_goesOn (ym_m_mode M) (ym_m_hasMaster M) (ym_m_goesOn M) 0 mov) 2))
      simp only [f_L_setMode_lmo, f_L_setMode_kgo, f_X6_setMode_m_goesOn, if_pos hc, if_neg hz]
      simp only [f_X6_setMode_j5_4, f_X6_setMode_j2_2, f_X1_changeMode_lmo, f_X1_changeMode_kgo, f_X1_changeMode_j1_3, f_X6_settle_m_goesOn]
      by_cases a : (yl_lmo T.1) = mov
      · have hm : ym_m_mode M (0 : Int32).toNatClampNeg = (yl_lmo T.1) := h_mode.1
        rw [hm, if_pos a, if_pos a.symm, if_pos a.symm]; exact h_go
      by_cases b : (yl_lmo T.1) = 0
      · have hm : ym_m_mode M (0 : Int32).toNatClampNeg = (yl_lmo T.1) := h_mode.1
        have c : ¬ mov = 0 := fun q => a (b.trans q.symm)
        have a2 : ¬ mov = (yl_lmo T.1) := fun q => a q.symm
        simp only [hm, if_neg a, if_neg a2, if_pos b, if_neg c]
        exact ⟨fun _ => u_eq _ _ _, fun h => (u_ne _ _ (by decide)).trans (h_go.2.1 h), fun h => (u_ne _ _ (by decide)).trans (h_go.2.2 h)⟩
      by_cases c : mov = 0
      · have hm : ym_m_mode M (0 : Int32).toNatClampNeg = (yl_lmo T.1) := h_mode.1
        have a2 : ¬ mov = (yl_lmo T.1) := fun q => a q.symm
        simp only [hm, if_neg a, if_neg a2, if_neg b, if_pos c]
        exact ⟨fun h => by subst c; rcases h with h | h <;> exact absurd h (by decide), h_go.2.1, h_go.2.2⟩
      · have hm : ym_m_mode M (0 : Int32).toNatClampNeg = (yl_lmo T.1) := h_mode.1
        have a2 : ¬ mov = (yl_lmo T.1) := fun q => a q.symm
        simp only [hm, if_neg a, if_neg a2, if_neg b, if_neg c]
        exact ⟨fun _ => h_go.1 (by rcases h_i_md.1 with q | q | q | q; exact absurd q b; exact Or.inl q; exact Or.inr q; exact absurd ((sm_ok hc).2.1 q) c), h_go.2.1, h_go.2.2⟩
    · show (Imd (f_L_setMode_lmo (yl_lmo T.1) (yl_lma T.1) mov)) ∧ (Imd (yl_lmo T.2.1)) ∧ (Imd (yl_lmo T.2.2))
      simp only [f_L_setMode_lmo, if_pos hc]
      simp only [f_X1_changeMode_lmo]
      by_cases a : mov = (yl_lmo T.1)
      · rw [if_pos a]; exact h_i_md
      · rw [if_neg a]
        exact ⟨by rcases (sm_ok hc).1 with q | q | q; exact Or.inl q; exact Or.inr (Or.inl q); exact Or.inr (Or.inr (Or.inl q)), h_i_md.2.1, h_i_md.2.2⟩
    · show (Irl (f_L_setMode_lmo (yl_lmo T.1) (yl_lma T.1) mov) (f_L_setMode_rpr (yl_lmo T.1) (yl_lma T.1) (yl_rpr T.1) mov) (yl_rsa T.1) (yl_rri T.1) (yl_rse T.1)) ∧ (Irl (yl_lmo T.2.1) (yl_rpr T.2.1) (yl_rsa T.2.1) (yl_rri T.2.1) (yl_rse T.2.1)) ∧ (Irl (yl_lmo T.2.2) (yl_rpr T.2.2) (yl_rsa T.2.2) (yl_rri T.2.2) (yl_rse T.2.2))
      simp only [f_L_setMode_lmo, f_L_setMode_rpr, if_pos hc]
      simp only [f_X1_changeMode_lmo, f_X1_changeMode_rpr]
      by_cases a : mov = (yl_lmo T.1)
      · rw [if_pos a, if_pos a]; exact h_i_rl
      · rw [if_neg a, if_neg a]
        exact ⟨fun q => by rcases (sm_ok hc).1 with z | z | z <;> exact absurd (z.symm.trans q) (by decide), h_i_rl.2.1, h_i_rl.2.2⟩
    · show Im0 (f_L_setMode_lmo (yl_lmo T.1) (yl_lma T.1) mov) (yl_lma T.1)
      simp only [f_L_setMode_lmo, if_pos hc]
      simp only [f_X1_changeMode_lmo]
      by_cases a : mov = (yl_lmo T.1)
      · rw [if_pos a]; exact h_i_m0
      · rw [if_neg a]
        exact ⟨fun q => (sm_ok hc).2.2 q h_i_m0.2, h_i_m0.2⟩
  · have hz : f_X6_can_j1_1 (f_X6_setMode_j1_1 (ym_m_mode M) (ym_m_hasMaster M) 0 mov) = 0 := can_no (by rw [hcd]; exact w123_n hc)
    refine ⟨?_, fun h => absurd h ?_, h_bs, h_a1, h_a2, h_b, h_deadTime, h_load, h_measure, h_before, h_low, h_high, h_setpoint, ?_, h_guard, h_share, ?_, ?_, h_follows, h_hasMaster, h_isStarved, h_held, h_sum, h_lastError, h_lastRate, ?_, h_center, h_height, h_band, h_isUp, h_gone, h_risings, h_second, h_greatest, h_least, h_period, h_swing, h_gain, h_past, ?_, h_sched, h_i_lim, h_i_gb, ?_, h_i_dt, h_i_me, h_i_st, h_i_up, h_i_gl, h_i_sw, ?_, ?_⟩
    · show (f_X6_setMode_j1_1 (ym_m_mode M) (ym_m_hasMaster M) 0 mov) = f_L_setMode_r (yl_lmo T.1) (yl_lma T.1) mov
      rw [hcd]; unfold f_L_setMode_r; rw [if_neg hc]
    · show ¬ f_L_setMode_r (yl_lmo T.1) (yl_lma T.1) mov = 0
      unfold f_L_setMode_r; rw [if_neg hc]; exact w123_n hc
    · show e3 (f_X6_setMode_m_integral (ym_m_measure M) (ym_m_before M) (ym_m_past M) (ym_m_gain M) (ym_m_setpoint M) (ym_m_integral M) (ym_m_mode M) (ym_m_hasMaster M) 0 mov) (f_L_setMode_kig (yl_lmo T.1) (yl_lma T.1) (yl_lou T.1) (yl_kp T.1) (yl_kd T.1) (yl_ksp T.1) (yl_kig T.1) (yl_pme T.1) (yl_pmb T.1) mov) (yl_kig T.2.1) (yl_kig T.2.2)
      simp only [f_L_setMode_kig, f_X6_setMode_m_integral, if_neg hc, if_pos hz]
      exact h_integral
    · show e3 (f_X6_setMode_m_mode (ym_m_mode M) (ym_m_hasMaster M) 0 mov) (f_L_setMode_lmo (yl_lmo T.1) (yl_lma T.1) mov) (yl_lmo T.2.1) (yl_lmo T.2.2)
      simp only [f_L_setMode_lmo, f_X6_setMode_m_mode, if_neg hc, if_pos hz]
      exact h_mode
    · show e3 (f_X6_setMode_m_hand (ym_m_past M) (ym_m_mode M) (ym_m_hand M) (ym_m_hasMaster M) 0 mov) (f_L_setMode_lha (yl_lmo T.1) (yl_lha T.1) (yl_lma T.1) (yl_lou T.1) mov) (yl_lha T.2.1) (yl_lha T.2.2)
      simp only [f_L_setMode_lha, f_X6_setMode_m_hand, if_neg hc, if_pos hz]
      exact h_hand
    · show e3 (f_X6_setMode_m_experiment (ym_m_mode M) (ym_m_hasMaster M) (ym_m_experiment M) 0 mov) (f_L_setMode_rpr (yl_lmo T.1) (yl_lma T.1) (yl_rpr T.1) mov) (yl_rpr T.2.1) (yl_rpr T.2.2)
      simp only [f_L_setMode_rpr, f_X6_setMode_m_experiment, if_neg hc, if_pos hz]
      exact h_experiment
    · show (Rgo (f_L_setMode_lmo (yl_lmo T.1) (yl_lma T.1) mov) (f_L_setMode_kgo (yl_lmo T.1) (yl_lma T.1) (yl_kgo T.1) mov) ((f_X6_setMode_m_goesOn (ym_m_mode M) (ym_m_hasMaster M) (ym_m_goesOn M) 0 mov) 0)) ∧ (Rgo (yl_lmo T.2.1) (yl_kgo T.2.1) ((f_X6_setMode_m_goesOn (ym_m_mode M) (ym_m_hasMaster M) (ym_m_goesOn M) 0 mov) 1)) ∧ (Rgo (yl_lmo T.2.2) (yl_kgo T.2.2) ((f_X6_setMode_m_goesOn (ym_m_mode M) (ym_m_hasMaster M) (ym_m_goesOn M) 0 mov) 2))
      simp only [f_L_setMode_lmo, f_L_setMode_kgo, f_X6_setMode_m_goesOn, if_neg hc, if_pos hz]
      exact h_go
    · show (Imd (f_L_setMode_lmo (yl_lmo T.1) (yl_lma T.1) mov)) ∧ (Imd (yl_lmo T.2.1)) ∧ (Imd (yl_lmo T.2.2))
      simp only [f_L_setMode_lmo, if_neg hc]
      exact h_i_md
    · show (Irl (f_L_setMode_lmo (yl_lmo T.1) (yl_lma T.1) mov) (f_L_setMode_rpr (yl_lmo T.1) (yl_lma T.1) (yl_rpr T.1) mov) (yl_rsa T.1) (yl_rri T.1) (yl_rse T.1)) ∧ (Irl (yl_lmo T.2.1) (yl_rpr T.2.1) (yl_rsa T.2.1) (yl_rri T.2.1) (yl_rse T.2.1)) ∧ (Irl (yl_lmo T.2.2) (yl_rpr T.2.2) (yl_rsa T.2.2) (yl_rri T.2.2) (yl_rse T.2.2))
      simp only [f_L_setMode_lmo, f_L_setMode_rpr, if_neg hc]
      exact h_i_rl
    · show Im0 (f_L_setMode_lmo (yl_lmo T.1) (yl_lma T.1) mov) (yl_lma T.1)
      simp only [f_L_setMode_lmo, if_neg hc]
      exact h_i_m0
set_option maxHeartbeats 1000000 in
theorem rel_setMode_1 (hR : Rel T bs M) (mov : Int32) (uo : Nat → Int64) : rm_thrown (um_setMode M 1 mov) = lr_setMode T.2.1 mov ∧ (lr_setMode T.2.1 mov = 0 → lo_setMode T.2.1 uo mov (0 : Int32).toNatClampNeg = (rm_setMode M 1 mov).toInt64) ∧ Rel (T.1, (lu_setMode T.2.1 mov), T.2.2) bs (um_setMode M 1 mov) := by
  obtain ⟨h_bs, h_a1, h_a2, h_b, h_deadTime, h_load, h_measure, h_before, h_low, h_high, h_setpoint, h_integral, h_guard, h_share, h_mode, h_hand, h_follows, h_hasMaster, h_isStarved, h_held, h_sum, h_lastError, h_lastRate, h_experiment, h_center, h_height, h_band, h_isUp, h_gone, h_risings, h_second, h_greatest, h_least, h_period, h_swing, h_gain, h_past, h_go, h_sched, h_i_lim, h_i_gb, h_i_md, h_i_dt, h_i_me, h_i_st, h_i_up, h_i_gl, h_i_sw, h_i_rl, h_i_m0⟩ := Rel_iff.mp hR
  have hcd : (f_X6_setMode_j1_1 (ym_m_mode M) (ym_m_hasMaster M) 1 mov) = wr123 (f_X5_setMode_x (yl_lmo T.2.1) (yl_lma T.2.1) mov) := cd_setMode il_1 (h_mode.2.1) (h_hasMaster.2.1)
  by_cases hc : (f_X5_setMode_x (yl_lmo T.2.1) (yl_lma T.2.1) mov) = 0
  · have hz : ¬ f_X6_can_j1_1 (f_X6_setMode_j1_1 (ym_m_mode M) (ym_m_hasMaster M) 1 mov) = 0 := can_ok (by rw [hcd]; exact w123_0 hc)
    refine ⟨?_, fun _ => ?_, h_bs, h_a1, h_a2, h_b, h_deadTime, h_load, h_measure, h_before, h_low, h_high, h_setpoint, ?_, h_guard, h_share, ?_, ?_, h_follows, h_hasMaster, h_isStarved, h_held, h_sum, h_lastError, h_lastRate, ?_, h_center, h_height, h_band, h_isUp, h_gone, h_risings, h_second, h_greatest, h_least, h_period, h_swing, h_gain, h_past, ?_, h_sched, h_i_lim, h_i_gb, ?_, h_i_dt, h_i_me, h_i_st, h_i_up, h_i_gl, h_i_sw, ?_, h_i_m0⟩
    · show (f_X6_setMode_j1_1 (ym_m_mode M) (ym_m_hasMaster M) 1 mov) = f_L_setMode_r (yl_lmo T.2.1) (yl_lma T.2.1) mov
      rw [hcd]; unfold f_L_setMode_r; rw [if_pos hc]; exact w123_0 hc
    · show (f_L_setMode_uo (yl_lmo T.2.1) (yl_lma T.2.1) uo mov) (0 : Int32).toNatClampNeg = (f_X6_setMode_r (ym_m_mode M) (ym_m_hasMaster M) 1 mov).toInt64
      simp only [f_L_setMode_uo, f_X6_setMode_r, if_pos hc, if_neg hz]
      rw [ul_eq]
      exact congrArg Int32.toInt64 (h_mode.2.1).symm
    · show e3 (f_X6_setMode_m_integral (ym_m_measure M) (ym_m_before M) (ym_m_past M) (ym_m_gain M) (ym_m_setpoint M) (ym_m_integral M) (ym_m_mode M) (ym_m_hasMaster M) 1 mov) (yl_kig T.1) (f_L_setMode_kig (yl_lmo T.2.1) (yl_lma T.2.1) (yl_lou T.2.1) (yl_kp T.2.1) (yl_kd T.2.1) (yl_ksp T.2.1) (yl_kig T.2.1) (yl_pme T.2.1) (yl_pmb T.2.1) mov) (yl_kig T.2.2)
      simp only [f_L_setMode_kig, f_X6_setMode_m_integral, if_pos hc, if_neg hz]
      simp only [f_X6_setMode_j5_1, f_X6_setMode_j2_1, f_X1_changeMode_kig, f_X1_changeMode_j1_2]
      by_cases a : (yl_lmo T.2.1) = mov
      · have hm : ym_m_mode M (1 : Int32).toNatClampNeg = (yl_lmo T.2.1) := h_mode.2.1
        rw [hm, if_pos a, if_pos a.symm]; exact h_integral
      by_cases b : (yl_lmo T.2.1) = 0
      · have hm : ym_m_mode M (1 : Int32).toNatClampNeg = (yl_lmo T.2.1) := h_mode.2.1
        have c : ¬ mov = 0 := fun q => a (b.trans q.symm)
        have a2 : ¬ mov = (yl_lmo T.2.1) := fun q => a q.symm
        rw [hm, if_neg a, if_neg a2, if_pos b, if_neg c, if_pos b, stl_eq (n := 1) (h_gain.2.2.2.1) (h_gain.2.2.2.2.2.1) (h_setpoint.2.1) (h_measure.2.1) (h_before.2.1) (show f_X6_latest_r (ym_m_past M) 1 = (yl_lou T.2.1) from (rp_out (h_past.2.1)).symm)]
        exact ⟨((ul_ne _ _ (by decide)).trans h_integral.1), (ul_eq _ _ _), ((ul_ne _ _ (by decide)).trans h_integral.2.2)⟩
      by_cases c : mov = 0
      · have hm : ym_m_mode M (1 : Int32).toNatClampNeg = (yl_lmo T.2.1) := h_mode.2.1
        have a2 : ¬ mov = (yl_lmo T.2.1) := fun q => a q.symm
        rw [hm, if_neg a, if_neg a2, if_neg b, if_pos c]; exact h_integral
      · have hm : ym_m_mode M (1 : Int32).toNatClampNeg = (yl_lmo T.2.1) := h_mode.2.1
        have a2 : ¬ mov = (yl_lmo T.2.1) := fun q => a q.symm
        rw [hm, if_neg a, if_neg a2, if_neg b, if_neg c, if_neg b]; exact h_integral
    · show e3 (f_X6_setMode_m_mode (ym_m_mode M) (ym_m_hasMaster M) 1 mov) (yl_lmo T.1) (f_L_setMode_lmo (yl_lmo T.2.1) (yl_lma T.2.1) mov) (yl_lmo T.2.2)
      simp only [f_L_setMode_lmo, f_X6_setMode_m_mode, if_pos hc, if_neg hz]
      simp only [f_X6_setMode_j5_2, f_X1_changeMode_lmo]
      by_cases a : (yl_lmo T.2.1) = mov
      · have hm : ym_m_mode M (1 : Int32).toNatClampNeg = (yl_lmo T.2.1) := h_mode.2.1
        rw [hm, if_pos a, if_pos a.symm]; exact h_mode
      by_cases b : (yl_lmo T.2.1) = 0
      · have hm : ym_m_mode M (1 : Int32).toNatClampNeg = (yl_lmo T.2.1) := h_mode.2.1
        have a2 : ¬ mov = (yl_lmo T.2.1) := fun q => a q.symm
        rw [hm, if_neg a, if_neg a2]
        exact ⟨((u_ne _ _ (by decide)).trans h_mode.1), (u_eq _ _ _), ((u_ne _ _ (by decide)).trans h_mode.2.2)⟩
      by_cases c : mov = 0
      · have hm : ym_m_mode M (1 : Int32).toNatClampNeg = (yl_lmo T.2.1) := h_mode.2.1
        have a2 : ¬ mov = (yl_lmo T.2.1) := fun q => a q.symm
        rw [hm, if_neg a, if_neg a2]
        exact ⟨((u_ne _ _ (by decide)).trans h_mode.1), (u_eq _ _ _), ((u_ne _ _ (by decide)).trans h_mode.2.2)⟩
      · have hm : ym_m_mode M (1 : Int32).toNatClampNeg = (yl_lmo T.2.1) := h_mode.2.1
        have a2 : ¬ mov = (yl_lmo T.2.1) := fun q => a q.symm
        rw [hm, if_neg a, if_neg a2]
        exact ⟨((u_ne _ _ (by decide)).trans h_mode.1), (u_eq _ _ _), ((u_ne _ _ (by decide)).trans h_mode.2.2)⟩
    · show e3 (f_X6_setMode_m_hand (ym_m_past M) (ym_m_mode M) (ym_m_hand M) (ym_m_hasMaster M) 1 mov) (yl_lha T.1) (f_L_setMode_lha (yl_lmo T.2.1) (yl_lha T.2.1) (yl_lma T.2.1) (yl_lou T.2.1) mov) (yl_lha T.2.2)
      simp only [f_L_setMode_lha, f_X6_setMode_m_hand, if_pos hc, if_neg hz]
      simp only [f_X6_setMode_j5_3, f_X6_setMode_j4_1, f_X1_changeMode_lha, f_X1_changeMode_j1_1]
      by_cases a : (yl_lmo T.2.1) = mov
      · have hm : ym_m_mode M (1 : Int32).toNatClampNeg = (yl_lmo T.2.1) := h_mode.2.1
        rw [hm, if_pos a, if_pos a.symm]; exact h_hand
      by_cases b : (yl_lmo T.2.1) = 0
      · have hm : ym_m_mode M (1 : Int32).toNatClampNeg = (yl_lmo T.2.1) := h_mode.2.1
        have c : ¬ mov = 0 := fun q => a (b.trans q.symm)
        have a2 : ¬ mov = (yl_lmo T.2.1) := fun q => a q.symm
        rw [hm, if_neg a, if_neg a2, if_neg c, if_neg c]; exact h_hand
      by_cases c : mov = 0
      · have hm : ym_m_mode M (1 : Int32).toNatClampNeg = (yl_lmo T.2.1) := h_mode.2.1
        have a2 : ¬ mov = (yl_lmo T.2.1) := fun q => a q.symm
        rw [hm, if_neg a, if_neg a2, if_pos c, if_pos c, show f_X6_latest_r (ym_m_past M) 1 = (yl_lou T.2.1) from (rp_out (h_past.2.1)).symm]
        exact ⟨((ul_ne _ _ (by decide)).trans h_hand.1), (ul_eq _ _ _), ((ul_ne _ _ (by decide)).trans h_hand.2.2)⟩
      · have hm : ym_m_mode M (1 : Int32).toNatClampNeg = (yl_lmo T.2.1) := h_mode.2.1
        have a2 : ¬ mov = (yl_lmo T.2.1) := fun q => a q.symm
        rw [hm, if_neg a, if_neg a2, if_neg c, if_neg c]; exact h_hand
    · show e3 (f_X6_setMode_m_experiment (ym_m_mode M) (ym_m_hasMaster M) (ym_m_experiment M) 1 mov) (yl_rpr T.1) (f_L_setMode_rpr (yl_lmo T.2.1) (yl_lma T.2.1) (yl_rpr T.2.1) mov) (yl_rpr T.2.2)
      simp only [f_L_setMode_rpr, f_X6_setMode_m_experiment, if_pos hc, if_neg hz]
      simp only [f_X6_setMode_j5_5, f_X6_setMode_j4_2, f_X6_setMode_j3_1, f_X1_changeMode_rpr, f_X1_changeMode_j1_4, f_X1_goToHand_j1_1]
      by_cases a : (yl_lmo T.2.1) = mov
      · have hm : ym_m_mode M (1 : Int32).toNatClampNeg = (yl_lmo T.2.1) := h_mode.2.1
        rw [hm, if_pos a, if_pos a.symm]; exact h_experiment
      by_cases b : (yl_lmo T.2.1) = 0
      · have hm : ym_m_mode M (1 : Int32).toNatClampNeg = (yl_lmo T.2.1) := h_mode.2.1
        have c : ¬ mov = 0 := fun q => a (b.trans q.symm)
        have a2 : ¬ mov = (yl_lmo T.2.1) := fun q => a q.symm
        rw [hm, if_neg a, if_neg a2, if_neg c, if_neg c]; exact h_experiment
      by_cases c : mov = 0
      · have hm : ym_m_mode M (1 : Int32).toNatClampNeg = (yl_lmo T.2.1) := h_mode.2.1
        have a2 : ¬ mov = (yl_lmo T.2.1) := fun q => a q.symm
        rw [hm, if_neg a, if_neg a2, if_pos c, if_pos c, show ym_m_experiment M (1 : Int32).toNatClampNeg = (yl_rpr T.2.1) from h_experiment.2.1]
        exact ⟨((u_ne _ _ (by decide)).trans h_experiment.1), (u_eq _ _ _), ((u_ne _ _ (by decide)).trans h_experiment.2.2)⟩
      · have hm : ym_m_mode M (1 : Int32).toNatClampNeg = (yl_lmo T.2.1) := h_mode.2.1
        have a2 : ¬ mov = (yl_lmo T.2.1) := fun q => a q.symm
        rw [hm, if_neg a, if_neg a2, if_neg c, if_neg c]; exact h_experiment
    · show (Rgo (yl_lmo T.1) (yl_kgo T.1) ((f_X6_setMode_m_goesOn (ym_m_mode M) (ym_m_hasMaster M) (ym_m_goesOn M) 1 mov) 0)) ∧ (Rgo (f_L_setMode_lmo (yl_lmo T.2.1) (yl_lma T.2.1) mov) (f_L_setMode_kgo (yl_lmo T.2.1) (yl_lma T.2.1) (yl_kgo T.2.1) mov) ((f_X6_setMode_m_goesOn (ym_m_mode M) (ym_m_hasMaster M) (ym_m_goesOn M) 1 mov) 1)) ∧ (Rgo (yl_lmo T.2.2) (yl_kgo T.2.2) ((f_X6_setMode_m_goesOn (ym_m_mode M) (ym_m_hasMaster M) (ym_m_goesOn M) 1 mov) 2))
      simp only [f_L_setMode_lmo, f_L_setMode_kgo, f_X6_setMode_m_goesOn, if_pos hc, if_neg hz]
      simp only [f_X6_setMode_j5_4, f_X6_setMode_j2_2, f_X1_changeMode_lmo, f_X1_changeMode_kgo, f_X1_changeMode_j1_3, f_X6_settle_m_goesOn]
      by_cases a : (yl_lmo T.2.1) = mov
      · have hm : ym_m_mode M (1 : Int32).toNatClampNeg = (yl_lmo T.2.1) := h_mode.2.1
        rw [hm, if_pos a, if_pos a.symm, if_pos a.symm]; exact h_go
      by_cases b : (yl_lmo T.2.1) = 0
      · have hm : ym_m_mode M (1 : Int32).toNatClampNeg = (yl_lmo T.2.1) := h_mode.2.1
        have c : ¬ mov = 0 := fun q => a (b.trans q.symm)
        have a2 : ¬ mov = (yl_lmo T.2.1) := fun q => a q.symm
        simp only [hm, if_neg a, if_neg a2, if_pos b, if_neg c]
        exact ⟨fun h => (u_ne _ _ (by decide)).trans (h_go.1 h), fun _ => u_eq _ _ _, fun h => (u_ne _ _ (by decide)).trans (h_go.2.2 h)⟩
      by_cases c : mov = 0
      · have hm : ym_m_mode M (1 : Int32).toNatClampNeg = (yl_lmo T.2.1) := h_mode.2.1
        have a2 : ¬ mov = (yl_lmo T.2.1) := fun q => a q.symm
        simp only [hm, if_neg a, if_neg a2, if_neg b, if_pos c]
        exact ⟨h_go.1, fun h => by subst c; rcases h with h | h <;> exact absurd h (by decide), h_go.2.2⟩
      · have hm : ym_m_mode M (1 : Int32).toNatClampNeg = (yl_lmo T.2.1) := h_mode.2.1
        have a2 : ¬ mov = (yl_lmo T.2.1) := fun q => a q.symm
        simp only [hm, if_neg a, if_neg a2, if_neg b, if_neg c]
        exact ⟨h_go.1, fun _ => h_go.2.1 (by rcases h_i_md.2.1 with q | q | q | q; exact absurd q b; exact Or.inl q; exact Or.inr q; exact absurd ((sm_ok hc).2.1 q) c), h_go.2.2⟩
    · show (Imd (yl_lmo T.1)) ∧ (Imd (f_L_setMode_lmo (yl_lmo T.2.1) (yl_lma T.2.1) mov)) ∧ (Imd (yl_lmo T.2.2))
      simp only [f_L_setMode_lmo, if_pos hc]
      simp only [f_X1_changeMode_lmo]
      by_cases a : mov = (yl_lmo T.2.1)
      · rw [if_pos a]; exact h_i_md
      · rw [if_neg a]
        exact ⟨h_i_md.1, by rcases (sm_ok hc).1 with q | q | q; exact Or.inl q; exact Or.inr (Or.inl q); exact Or.inr (Or.inr (Or.inl q)), h_i_md.2.2⟩
    · show (Irl (yl_lmo T.1) (yl_rpr T.1) (yl_rsa T.1) (yl_rri T.1) (yl_rse T.1)) ∧ (Irl (f_L_setMode_lmo (yl_lmo T.2.1) (yl_lma T.2.1) mov) (f_L_setMode_rpr (yl_lmo T.2.1) (yl_lma T.2.1) (yl_rpr T.2.1) mov) (yl_rsa T.2.1) (yl_rri T.2.1) (yl_rse T.2.1)) ∧ (Irl (yl_lmo T.2.2) (yl_rpr T.2.2) (yl_rsa T.2.2) (yl_rri T.2.2) (yl_rse T.2.2))
      simp only [f_L_setMode_lmo, f_L_setMode_rpr, if_pos hc]
      simp only [f_X1_changeMode_lmo, f_X1_changeMode_rpr]
      by_cases a : mov = (yl_lmo T.2.1)
      · rw [if_pos a, if_pos a]; exact h_i_rl
      · rw [if_neg a, if_neg a]
        exact ⟨h_i_rl.1, fun q => by rcases (sm_ok hc).1 with z | z | z <;> exact absurd (z.symm.trans q) (by decide), h_i_rl.2.2⟩
  · have hz : f_X6_can_j1_1 (f_X6_setMode_j1_1 (ym_m_mode M) (ym_m_hasMaster M) 1 mov) = 0 := can_no (by rw [hcd]; exact w123_n hc)
    refine ⟨?_, fun h => absurd h ?_, h_bs, h_a1, h_a2, h_b, h_deadTime, h_load, h_measure, h_before, h_low, h_high, h_setpoint, ?_, h_guard, h_share, ?_, ?_, h_follows, h_hasMaster, h_isStarved, h_held, h_sum, h_lastError, h_lastRate, ?_, h_center, h_height, h_band, h_isUp, h_gone, h_risings, h_second, h_greatest, h_least, h_period, h_swing, h_gain, h_past, ?_, h_sched, h_i_lim, h_i_gb, ?_, h_i_dt, h_i_me, h_i_st, h_i_up, h_i_gl, h_i_sw, ?_, h_i_m0⟩
    · show (f_X6_setMode_j1_1 (ym_m_mode M) (ym_m_hasMaster M) 1 mov) = f_L_setMode_r (yl_lmo T.2.1) (yl_lma T.2.1) mov
      rw [hcd]; unfold f_L_setMode_r; rw [if_neg hc]
    · show ¬ f_L_setMode_r (yl_lmo T.2.1) (yl_lma T.2.1) mov = 0
      unfold f_L_setMode_r; rw [if_neg hc]; exact w123_n hc
    · show e3 (f_X6_setMode_m_integral (ym_m_measure M) (ym_m_before M) (ym_m_past M) (ym_m_gain M) (ym_m_setpoint M) (ym_m_integral M) (ym_m_mode M) (ym_m_hasMaster M) 1 mov) (yl_kig T.1) (f_L_setMode_kig (yl_lmo T.2.1) (yl_lma T.2.1) (yl_lou T.2.1) (yl_kp T.2.1) (yl_kd T.2.1) (yl_ksp T.2.1) (yl_kig T.2.1) (yl_pme T.2.1) (yl_pmb T.2.1) mov) (yl_kig T.2.2)
      simp only [f_L_setMode_kig, f_X6_setMode_m_integral, if_neg hc, if_pos hz]
      exact h_integral
    · show e3 (f_X6_setMode_m_mode (ym_m_mode M) (ym_m_hasMaster M) 1 mov) (yl_lmo T.1) (f_L_setMode_lmo (yl_lmo T.2.1) (yl_lma T.2.1) mov) (yl_lmo T.2.2)
      simp only [f_L_setMode_lmo, f_X6_setMode_m_mode, if_neg hc, if_pos hz]
      exact h_mode
    · show e3 (f_X6_setMode_m_hand (ym_m_past M) (ym_m_mode M) (ym_m_hand M) (ym_m_hasMaster M) 1 mov) (yl_lha T.1) (f_L_setMode_lha (yl_lmo T.2.1) (yl_lha T.2.1) (yl_lma T.2.1) (yl_lou T.2.1) mov) (yl_lha T.2.2)
      simp only [f_L_setMode_lha, f_X6_setMode_m_hand, if_neg hc, if_pos hz]
      exact h_hand
    · show e3 (f_X6_setMode_m_experiment (ym_m_mode M) (ym_m_hasMaster M) (ym_m_experiment M) 1 mov) (yl_rpr T.1) (f_L_setMode_rpr (yl_lmo T.2.1) (yl_lma T.2.1) (yl_rpr T.2.1) mov) (yl_rpr T.2.2)
      simp only [f_L_setMode_rpr, f_X6_setMode_m_experiment, if_neg hc, if_pos hz]
      exact h_experiment
    · show (Rgo (yl_lmo T.1) (yl_kgo T.1) ((f_X6_setMode_m_goesOn (ym_m_mode M) (ym_m_hasMaster M) (ym_m_goesOn M) 1 mov) 0)) ∧ (Rgo (f_L_setMode_lmo (yl_lmo T.2.1) (yl_lma T.2.1) mov) (f_L_setMode_kgo (yl_lmo T.2.1) (yl_lma T.2.1) (yl_kgo T.2.1) mov) ((f_X6_setMode_m_goesOn (ym_m_mode M) (ym_m_hasMaster M) (ym_m_goesOn M) 1 mov) 1)) ∧ (Rgo (yl_lmo T.2.2) (yl_kgo T.2.2) ((f_X6_setMode_m_goesOn (ym_m_mode M) (ym_m_hasMaster M) (ym_m_goesOn M) 1 mov) 2))
      simp only [f_L_setMode_lmo, f_L_setMode_kgo, f_X6_setMode_m_goesOn, if_neg hc, if_pos hz]
      exact h_go
    · show (Imd (yl_lmo T.1)) ∧ (Imd (f_L_setMode_lmo (yl_lmo T.2.1) (yl_lma T.2.1) mov)) ∧ (Imd (yl_lmo T.2.2))
      simp only [f_L_setMode_lmo, if_neg hc]
      exact h_i_md
    · show (Irl (yl_lmo T.1) (yl_rpr T.1) (yl_rsa T.1) (yl_rri T.1) (yl_rse T.1)) ∧ (Irl (f_L_setMode_lmo (yl_lmo T.2.1) (yl_lma T.2.1) mov) (f_L_setMode_rpr (yl_lmo T.2.1) (yl_lma T.2.1) (yl_rpr T.2.1) mov) (yl_rsa T.2.1) (yl_rri T.2.1) (yl_rse T.2.1)) ∧ (Irl (yl_lmo T.2.2) (yl_rpr T.2.2) (yl_rsa T.2.2) (yl_rri T.2.2) (yl_rse T.2.2))
      simp only [f_L_setMode_lmo, f_L_setMode_rpr, if_neg hc]
      exact h_i_rl
set_option maxHeartbeats 1000000 in
theorem rel_setMode_2 (hR : Rel T bs M) (mov : Int32) (uo : Nat → Int64) : rm_thrown (um_setMode M 2 mov) = lr_setMode T.2.2 mov ∧ (lr_setMode T.2.2 mov = 0 → lo_setMode T.2.2 uo mov (0 : Int32).toNatClampNeg = (rm_setMode M 2 mov).toInt64) ∧ Rel (T.1, T.2.1, (lu_setMode T.2.2 mov)) bs (um_setMode M 2 mov) := by
  obtain ⟨h_bs, h_a1, h_a2, h_b, h_deadTime, h_load, h_measure, h_before, h_low, h_high, h_setpoint, h_integral, h_guard, h_share, h_mode, h_hand, h_follows, h_hasMaster, h_isStarved, h_held, h_sum, h_lastError, h_lastRate, h_experiment, h_center, h_height, h_band, h_isUp, h_gone, h_risings, h_second, h_greatest, h_least, h_period, h_swing, h_gain, h_past, h_go, h_sched, h_i_lim, h_i_gb, h_i_md, h_i_dt, h_i_me, h_i_st, h_i_up, h_i_gl, h_i_sw, h_i_rl, h_i_m0⟩ := Rel_iff.mp hR
  have hcd : (f_X6_setMode_j1_1 (ym_m_mode M) (ym_m_hasMaster M) 2 mov) = wr123 (f_X5_setMode_x (yl_lmo T.2.2) (yl_lma T.2.2) mov) := cd_setMode il_2 (h_mode.2.2) (h_hasMaster.2.2)
  by_cases hc : (f_X5_setMode_x (yl_lmo T.2.2) (yl_lma T.2.2) mov) = 0
  · have hz : ¬ f_X6_can_j1_1 (f_X6_setMode_j1_1 (ym_m_mode M) (ym_m_hasMaster M) 2 mov) = 0 := can_ok (by rw [hcd]; exact w123_0 hc)
    refine ⟨?_, fun _ => ?_, h_bs, h_a1, h_a2, h_b, h_deadTime, h_load, h_measure, h_before, h_low, h_high, h_setpoint, ?_, h_guard, h_share, ?_, ?_, h_follows, h_hasMaster, h_isStarved, h_held, h_sum, h_lastError, h_lastRate, ?_, h_center, h_height, h_band, h_isUp, h_gone, h_risings, h_second, h_greatest, h_least, h_period, h_swing, h_gain, h_past, ?_, h_sched, h_i_lim, h_i_gb, ?_, h_i_dt, h_i_me, h_i_st, h_i_up, h_i_gl, h_i_sw, ?_, h_i_m0⟩
    · show (f_X6_setMode_j1_1 (ym_m_mode M) (ym_m_hasMaster M) 2 mov) = f_L_setMode_r (yl_lmo T.2.2) (yl_lma T.2.2) mov
      rw [hcd]; unfold f_L_setMode_r; rw [if_pos hc]; exact w123_0 hc
    · show (f_L_setMode_uo (yl_lmo T.2.2) (yl_lma T.2.2) uo mov) (0 : Int32).toNatClampNeg = (f_X6_setMode_r (ym_m_mode M) (ym_m_hasMaster M) 2 mov).toInt64
      simp only [f_L_setMode_uo, f_X6_setMode_r, if_pos hc, if_neg hz]
      rw [ul_eq]
      exact congrArg Int32.toInt64 (h_mode.2.2).symm
    · show e3 (f_X6_setMode_m_integral (ym_m_measure M) (ym_m_before M) (ym_m_past M) (ym_m_gain M) (ym_m_setpoint M) (ym_m_integral M) (ym_m_mode M) (ym_m_hasMaster M) 2 mov) (yl_kig T.1) (yl_kig T.2.1) (f_L_setMode_kig (yl_lmo T.2.2) (yl_lma T.2.2) (yl_lou T.2.2) (yl_kp T.2.2) (yl_kd T.2.2) (yl_ksp T.2.2) (yl_kig T.2.2) (yl_pme T.2.2) (yl_pmb T.2.2) mov)
      simp only [f_L_setMode_kig, f_X6_setMode_m_integral, if_pos hc, if_neg hz]
      simp only [f_X6_setMode_j5_1, f_X6_setMode_j2_1, f_X1_changeMode_kig, f_X1_changeMode_j1_2]
      by_cases a : (yl_lmo T.2.2) = mov
      · have hm : ym_m_mode M (2 : Int32).toNatClampNeg = (yl_lmo T.2.2) := h_mode.2.2
        rw [hm, if_pos a, if_pos a.symm]; exact h_integral
      by_cases b : (yl_lmo T.2.2) = 0
      · have hm : ym_m_mode M (2 : Int32).toNatClampNeg = (yl_lmo T.2.2) := h_mode.2.2
        have c : ¬ mov = 0 := fun q => a (b.trans q.symm)
        have a2 : ¬ mov = (yl_lmo T.2.2) := fun q => a q.symm
        rw [hm, if_neg a, if_neg a2, if_pos b, if_neg c, if_pos b, stl_eq (n := 2) (h_gain.2.2.2.2.2.2.1) (h_gain.2.2.2.2.2.2.2.2) (h_setpoint.2.2) (h_measure.2.2) (h_before.2.2) (show f_X6_latest_r (ym_m_past M) 2 = (yl_lou T.2.2) from (rp_out (h_past.2.2)).symm)]
        exact ⟨((ul_ne _ _ (by decide)).trans h_integral.1), ((ul_ne _ _ (by decide)).trans h_integral.2.1), (ul_eq _ _ _)⟩
      by_cases c : mov = 0
      · have hm : ym_m_mode M (2 : Int32).toNatClampNeg = (yl_lmo T.2.2) := h_mode.2.2
        have a2 : ¬ mov = (yl_lmo T.2.2) := fun q => a q.symm
        rw [hm, if_neg a, if_neg a2, if_neg b, if_pos c]; exact h_integral
      · have hm : ym_m_mode M (2 : Int32).toNatClampNeg = (yl_lmo T.2.2) := h_mode.2.2
        have a2 : ¬ mov = (yl_lmo T.2.2) := fun q => a q.symm
        rw [hm, if_neg a, if_neg a2, if_neg b, if_neg c, if_neg b]; exact h_integral
    · show e3 (f_X6_setMode_m_mode (ym_m_mode M) (ym_m_hasMaster M) 2 mov) (yl_lmo T.1) (yl_lmo T.2.1) (f_L_setMode_lmo (yl_lmo T.2.2) (yl_lma T.2.2) mov)
      simp only [f_L_setMode_lmo, f_X6_setMode_m_mode, if_pos hc, if_neg hz]
      simp only [f_X6_setMode_j5_2, f_X1_changeMode_lmo]
      by_cases a : (yl_lmo T.2.2) = mov
      · have hm : ym_m_mode M (2 : Int32).toNatClampNeg = (yl_lmo T.2.2) := h_mode.2.2
        rw [hm, if_pos a, if_pos a.symm]; exact h_mode
      by_cases b : (yl_lmo T.2.2) = 0
      · have hm : ym_m_mode M (2 : Int32).toNatClampNeg = (yl_lmo T.2.2) := h_mode.2.2
        have a2 : ¬ mov = (yl_lmo T.2.2) := fun q => a q.symm
        rw [hm, if_neg a, if_neg a2]
        exact ⟨((u_ne _ _ (by decide)).trans h_mode.1), ((u_ne _ _ (by decide)).trans h_mode.2.1), (u_eq _ _ _)⟩
      by_cases c : mov = 0
      · have hm : ym_m_mode M (2 : Int32).toNatClampNeg = (yl_lmo T.2.2) := h_mode.2.2
        have a2 : ¬ mov = (yl_lmo T.2.2) := fun q => a q.symm
        rw [hm, if_neg a, if_neg a2]
        exact ⟨((u_ne _ _ (by decide)).trans h_mode.1), ((u_ne _ _ (by decide)).trans h_mode.2.1), (u_eq _ _ _)⟩
      · have hm : ym_m_mode M (2 : Int32).toNatClampNeg = (yl_lmo T.2.2) := h_mode.2.2
        have a2 : ¬ mov = (yl_lmo T.2.2) := fun q => a q.symm
        rw [hm, if_neg a, if_neg a2]
        exact ⟨((u_ne _ _ (by decide)).trans h_mode.1), ((u_ne _ _ (by decide)).trans h_mode.2.1), (u_eq _ _ _)⟩
    · show e3 (f_X6_setMode_m_hand (ym_m_past M) (ym_m_mode M) (ym_m_hand M) (ym_m_hasMaster M) 2 mov) (yl_lha T.1) (yl_lha T.2.1) (f_L_setMode_lha (yl_lmo T.2.2) (yl_lha T.2.2) (yl_lma T.2.2) (yl_lou T.2.2) mov)
      simp only [f_L_setMode_lha, f_X6_setMode_m_hand, if_pos hc, if_neg hz]
      simp only [f_X6_setMode_j5_3, f_X6_setMode_j4_1, f_X1_changeMode_lha, f_X1_changeMode_j1_1]
      by_cases a : (yl_lmo T.2.2) = mov
      · have hm : ym_m_mode M (2 : Int32).toNatClampNeg = (yl_lmo T.2.2) := h_mode.2.2
        rw [hm, if_pos a, if_pos a.symm]; exact h_hand
      by_cases b : (yl_lmo T.2.2) = 0
      · have hm : ym_m_mode M (2 : Int32).toNatClampNeg = (yl_lmo T.2.2) := h_mode.2.2
        have c : ¬ mov = 0 := fun q => a (b.trans q.symm)
        have a2 : ¬ mov = (yl_lmo T.2.2) := fun q => a q.symm
        rw [hm, if_neg a, if_neg a2, if_neg c, if_neg c]; exact h_hand
      by_cases c : mov = 0
      · have hm : ym_m_mode M (2 : Int32).toNatClampNeg = (yl_lmo T.2.2) := h_mode.2.2
        have a2 : ¬ mov = (yl_lmo T.2.2) := fun q => a q.symm
        rw [hm, if_neg a, if_neg a2, if_pos c, if_pos c, show f_X6_latest_r (ym_m_past M) 2 = (yl_lou T.2.2) from (rp_out (h_past.2.2)).symm]
        exact ⟨((ul_ne _ _ (by decide)).trans h_hand.1), ((ul_ne _ _ (by decide)).trans h_hand.2.1), (ul_eq _ _ _)⟩
      · have hm : ym_m_mode M (2 : Int32).toNatClampNeg = (yl_lmo T.2.2) := h_mode.2.2
        have a2 : ¬ mov = (yl_lmo T.2.2) := fun q => a q.symm
        rw [hm, if_neg a, if_neg a2, if_neg c, if_neg c]; exact h_hand
    · show e3 (f_X6_setMode_m_experiment (ym_m_mode M) (ym_m_hasMaster M) (ym_m_experiment M) 2 mov) (yl_rpr T.1) (yl_rpr T.2.1) (f_L_setMode_rpr (yl_lmo T.2.2) (yl_lma T.2.2) (yl_rpr T.2.2) mov)
      simp only [f_L_setMode_rpr, f_X6_setMode_m_experiment, if_pos hc, if_neg hz]
      simp only [f_X6_setMode_j5_5, f_X6_setMode_j4_2, f_X6_setMode_j3_1, f_X1_changeMode_rpr, f_X1_changeMode_j1_4, f_X1_goToHand_j1_1]
      by_cases a : (yl_lmo T.2.2) = mov
      · have hm : ym_m_mode M (2 : Int32).toNatClampNeg = (yl_lmo T.2.2) := h_mode.2.2
        rw [hm, if_pos a, if_pos a.symm]; exact h_experiment
      by_cases b : (yl_lmo T.2.2) = 0
      · have hm : ym_m_mode M (2 : Int32).toNatClampNeg = (yl_lmo T.2.2) := h_mode.2.2
        have c : ¬ mov = 0 := fun q => a (b.trans q.symm)
        have a2 : ¬ mov = (yl_lmo T.2.2) := fun q => a q.symm
        rw [hm, if_neg a, if_neg a2, if_neg c, if_neg c]; exact h_experiment
      by_cases c : mov = 0
      · have hm : ym_m_mode M (2 : Int32).toNatClampNeg = (yl_lmo T.2.2) := h_mode.2.2
        have a2 : ¬ mov = (yl_lmo T.2.2) := fun q => a q.symm
        rw [hm, if_neg a, if_neg a2, if_pos c, if_pos c, show ym_m_experiment M (2 : Int32).toNatClampNeg = (yl_rpr T.2.2) from h_experiment.2.2]
        exact ⟨((u_ne _ _ (by decide)).trans h_experiment.1), ((u_ne _ _ (by decide)).trans h_experiment.2.1), (u_eq _ _ _)⟩
      · have hm : ym_m_mode M (2 : Int32).toNatClampNeg = (yl_lmo T.2.2) := h_mode.2.2
        have a2 : ¬ mov = (yl_lmo T.2.2) := fun q => a q.symm
        rw [hm, if_neg a, if_neg a2, if_neg c, if_neg c]; exact h_experiment
    · show (Rgo (yl_lmo T.1) (yl_kgo T.1) ((f_X6_setMode_m_goesOn (ym_m_mode M) (ym_m_hasMaster M) (ym_m_goesOn M) 2 mov) 0)) ∧ (Rgo (yl_lmo T.2.1) (yl_kgo T.2.1) ((f_X6_setMode_m_goesOn (ym_m_mode M) (ym_m_hasMaster M) (ym_m_goesOn M) 2 mov) 1)) ∧ (Rgo (f_L_setMode_lmo (yl_lmo T.2.2) (yl_lma T.2.2) mov) (f_L_setMode_kgo (yl_lmo T.2.2) (yl_lma T.2.2) (yl_kgo T.2.2) mov) ((f_X6_setMode_m_goesOn (ym_m_mode M) (ym_m_hasMaster M) (ym_m_goesOn M) 2 mov) 2))
      simp only [f_L_setMode_lmo, f_L_setMode_kgo, f_X6_setMode_m_goesOn, if_pos hc, if_neg hz]
      simp only [f_X6_setMode_j5_4, f_X6_setMode_j2_2, f_X1_changeMode_lmo, f_X1_changeMode_kgo, f_X1_changeMode_j1_3, f_X6_settle_m_goesOn]
      by_cases a : (yl_lmo T.2.2) = mov
      · have hm : ym_m_mode M (2 : Int32).toNatClampNeg = (yl_lmo T.2.2) := h_mode.2.2
        rw [hm, if_pos a, if_pos a.symm, if_pos a.symm]; exact h_go
      by_cases b : (yl_lmo T.2.2) = 0
      · have hm : ym_m_mode M (2 : Int32).toNatClampNeg = (yl_lmo T.2.2) := h_mode.2.2
        have c : ¬ mov = 0 := fun q => a (b.trans q.symm)
        have a2 : ¬ mov = (yl_lmo T.2.2) := fun q => a q.symm
        simp only [hm, if_neg a, if_neg a2, if_pos b, if_neg c]
        exact ⟨fun h => (u_ne _ _ (by decide)).trans (h_go.1 h), fun h => (u_ne _ _ (by decide)).trans (h_go.2.1 h), fun _ => u_eq _ _ _⟩
      by_cases c : mov = 0
      · have hm : ym_m_mode M (2 : Int32).toNatClampNeg = (yl_lmo T.2.2) := h_mode.2.2
        have a2 : ¬ mov = (yl_lmo T.2.2) := fun q => a q.symm
        simp only [hm, if_neg a, if_neg a2, if_neg b, if_pos c]
        exact ⟨h_go.1, h_go.2.1, fun h => by subst c; rcases h with h | h <;> exact absurd h (by decide)⟩
      · have hm : ym_m_mode M (2 : Int32).toNatClampNeg = (yl_lmo T.2.2) := h_mode.2.2
        have a2 : ¬ mov = (yl_lmo T.2.2) := fun q => a q.symm
        simp only [hm, if_neg a, if_neg a2, if_neg b, if_neg c]
        exact ⟨h_go.1, h_go.2.1, fun _ => h_go.2.2 (by rcases h_i_md.2.2 with q | q | q | q; exact absurd q b; exact Or.inl q; exact Or.inr q; exact absurd ((sm_ok hc).2.1 q) c)⟩
    · show (Imd (yl_lmo T.1)) ∧ (Imd (yl_lmo T.2.1)) ∧ (Imd (f_L_setMode_lmo (yl_lmo T.2.2) (yl_lma T.2.2) mov))
      simp only [f_L_setMode_lmo, if_pos hc]
      simp only [f_X1_changeMode_lmo]
      by_cases a : mov = (yl_lmo T.2.2)
      · rw [if_pos a]; exact h_i_md
      · rw [if_neg a]
        exact ⟨h_i_md.1, h_i_md.2.1, by rcases (sm_ok hc).1 with q | q | q; exact Or.inl q; exact Or.inr (Or.inl q); exact Or.inr (Or.inr (Or.inl q))⟩
    · show (Irl (yl_lmo T.1) (yl_rpr T.1) (yl_rsa T.1) (yl_rri T.1) (yl_rse T.1)) ∧ (Irl (yl_lmo T.2.1) (yl_rpr T.2.1) (yl_rsa T.2.1) (yl_rri T.2.1) (yl_rse T.2.1)) ∧ (Irl (f_L_setMode_lmo (yl_lmo T.2.2) (yl_lma T.2.2) mov) (f_L_setMode_rpr (yl_lmo T.2.2) (yl_lma T.2.2) (yl_rpr T.2.2) mov) (yl_rsa T.2.2) (yl_rri T.2.2) (yl_rse T.2.2))
      simp only [f_L_setMode_lmo, f_L_setMode_rpr, if_pos hc]
      simp only [f_X1_changeMode_lmo, f_X1_changeMode_rpr]
      by_cases a : mov = (yl_lmo T.2.2)
      · rw [if_pos a, if_pos a]; exact h_i_rl
      · rw [if_neg a, if_neg a]
        exact ⟨h_i_rl.1, h_i_rl.2.1, fun q => by rcases (sm_ok hc).1 with z | z | z <;> exact absurd (z.symm.trans q) (by decide)⟩
  · have hz : f_X6_can_j1_1 (f_X6_setMode_j1_1 (ym_m_mode M) (ym_m_hasMaster M) 2 mov) = 0 := can_no (by rw [hcd]; exact w123_n hc)
    refine ⟨?_, fun h => absurd h ?_, h_bs, h_a1, h_a2, h_b, h_deadTime, h_load, h_measure, h_before, h_low, h_high, h_setpoint, ?_, h_guard, h_share, ?_, ?_, h_follows, h_hasMaster, h_isStarved, h_held, h_sum, h_lastError, h_lastRate, ?_, h_center, h_height, h_band, h_isUp, h_gone, h_risings, h_second, h_greatest, h_least, h_period, h_swing, h_gain, h_past, ?_, h_sched, h_i_lim, h_i_gb, ?_, h_i_dt, h_i_me, h_i_st, h_i_up, h_i_gl, h_i_sw, ?_, h_i_m0⟩
    · show (f_X6_setMode_j1_1 (ym_m_mode M) (ym_m_hasMaster M) 2 mov) = f_L_setMode_r (yl_lmo T.2.2) (yl_lma T.2.2) mov
      rw [hcd]; unfold f_L_setMode_r; rw [if_neg hc]
    · show ¬ f_L_setMode_r (yl_lmo T.2.2) (yl_lma T.2.2) mov = 0
      unfold f_L_setMode_r; rw [if_neg hc]; exact w123_n hc
    · show e3 (f_X6_setMode_m_integral (ym_m_measure M) (ym_m_before M) (ym_m_past M) (ym_m_gain M) (ym_m_setpoint M) (ym_m_integral M) (ym_m_mode M) (ym_m_hasMaster M) 2 mov) (yl_kig T.1) (yl_kig T.2.1) (f_L_setMode_kig (yl_lmo T.2.2) (yl_lma T.2.2) (yl_lou T.2.2) (yl_kp T.2.2) (yl_kd T.2.2) (yl_ksp T.2.2) (yl_kig T.2.2) (yl_pme T.2.2) (yl_pmb T.2.2) mov)
      simp only [f_L_setMode_kig, f_X6_setMode_m_integral, if_neg hc, if_pos hz]
      exact h_integral
    · show e3 (f_X6_setMode_m_mode (ym_m_mode M) (ym_m_hasMaster M) 2 mov) (yl_lmo T.1) (yl_lmo T.2.1) (f_L_setMode_lmo (yl_lmo T.2.2) (yl_lma T.2.2) mov)
      simp only [f_L_setMode_lmo, f_X6_setMode_m_mode, if_neg hc, if_pos hz]
      exact h_mode
    · show e3 (f_X6_setMode_m_hand (ym_m_past M) (ym_m_mode M) (ym_m_hand M) (ym_m_hasMaster M) 2 mov) (yl_lha T.1) (yl_lha T.2.1) (f_L_setMode_lha (yl_lmo T.2.2) (yl_lha T.2.2) (yl_lma T.2.2) (yl_lou T.2.2) mov)
      simp only [f_L_setMode_lha, f_X6_setMode_m_hand, if_neg hc, if_pos hz]
      exact h_hand
    · show e3 (f_X6_setMode_m_experiment (ym_m_mode M) (ym_m_hasMaster M) (ym_m_experiment M) 2 mov) (yl_rpr T.1) (yl_rpr T.2.1) (f_L_setMode_rpr (yl_lmo T.2.2) (yl_lma T.2.2) (yl_rpr T.2.2) mov)
      simp only [f_L_setMode_rpr, f_X6_setMode_m_experiment, if_neg hc, if_pos hz]
      exact h_experiment
    · show (Rgo (yl_lmo T.1) (yl_kgo T.1) ((f_X6_setMode_m_goesOn (ym_m_mode M) (ym_m_hasMaster M) (ym_m_goesOn M) 2 mov) 0)) ∧ (Rgo (yl_lmo T.2.1) (yl_kgo T.2.1) ((f_X6_setMode_m_goesOn (ym_m_mode M) (ym_m_hasMaster M) (ym_m_goesOn M) 2 mov) 1)) ∧ (Rgo (f_L_setMode_lmo (yl_lmo T.2.2) (yl_lma T.2.2) mov) (f_L_setMode_kgo (yl_lmo T.2.2) (yl_lma T.2.2) (yl_kgo T.2.2) mov) ((f_X6_setMode_m_goesOn (ym_m_mode M) (ym_m_hasMaster M) (ym_m_goesOn M) 2 mov) 2))
      simp only [f_L_setMode_lmo, f_L_setMode_kgo, f_X6_setMode_m_goesOn, if_neg hc, if_pos hz]
      exact h_go
    · show (Imd (yl_lmo T.1)) ∧ (Imd (yl_lmo T.2.1)) ∧ (Imd (f_L_setMode_lmo (yl_lmo T.2.2) (yl_lma T.2.2) mov))
      simp only [f_L_setMode_lmo, if_neg hc]
      exact h_i_md
    · show (Irl (yl_lmo T.1) (yl_rpr T.1) (yl_rsa T.1) (yl_rri T.1) (yl_rse T.1)) ∧ (Irl (yl_lmo T.2.1) (yl_rpr T.2.1) (yl_rsa T.2.1) (yl_rri T.2.1) (yl_rse T.2.1)) ∧ (Irl (f_L_setMode_lmo (yl_lmo T.2.2) (yl_lma T.2.2) mov) (f_L_setMode_rpr (yl_lmo T.2.2) (yl_lma T.2.2) (yl_rpr T.2.2) mov) (yl_rsa T.2.2) (yl_rri T.2.2) (yl_rse T.2.2))
      simp only [f_L_setMode_lmo, f_L_setMode_rpr, if_neg hc]
      exact h_i_rl
theorem rel_setMode (hR : Rel T bs M) (lp : Int32) (mov : Int32) (uo : Nat → Int64) : rm_thrown (um_setMode M lp mov) = ofL T lp (fun s => lr_setMode s mov) 1 ∧ (ofL T lp (fun s => lr_setMode s mov) 1 = 0 → (ofL T lp (fun s => lo_setMode s uo mov) uo) (0 : Int32).toNatClampNeg = (rm_setMode M lp mov).toInt64) ∧ Rel (onL T lp (fun s => lu_setMode s mov)) bs (um_setMode M lp mov) := by
  by_cases h0 : lp = 0
  · subst h0
    rw [ofL_0, ofL_0, onL_0]
    exact rel_setMode_0 hR mov uo
  by_cases h1 : lp = 1
  · subst h1
    rw [ofL_1, ofL_1, onL_1]
    exact rel_setMode_1 hR mov uo
  by_cases h2 : lp = 2
  · subst h2
    rw [ofL_2, ofL_2, onL_2]
    exact rel_setMode_2 hR mov uo
  rw [ofL_o T _ _ h0 h1 h2, ofL_o T _ _ h0 h1 h2, onL_o T _ h0 h1 h2]
  have hcd : (f_X6_setMode_j1_1 (ym_m_mode M) (ym_m_hasMaster M) lp mov) = 1 := by simp only [f_X6_setMode_j1_1, il_o h0 h1 h2]; rfl
  have hz : f_X6_can_j1_1 (f_X6_setMode_j1_1 (ym_m_mode M) (ym_m_hasMaster M) lp mov) = 0 := can_no (by rw [hcd]; decide)
  obtain ⟨h_bs, h_a1, h_a2, h_b, h_deadTime, h_load, h_measure, h_before, h_low, h_high, h_setpoint, h_integral, h_guard, h_share, h_mode, h_hand, h_follows, h_hasMaster, h_isStarved, h_held, h_sum, h_lastError, h_lastRate, h_experiment, h_center, h_height, h_band, h_isUp, h_gone, h_risings, h_second, h_greatest, h_least, h_period, h_swing, h_gain, h_past, h_go, h_sched, h_i_lim, h_i_gb, h_i_md, h_i_dt, h_i_me, h_i_st, h_i_up, h_i_gl, h_i_sw, h_i_rl, h_i_m0⟩ := Rel_iff.mp hR
  refine ⟨hcd, fun h => absurd h (by decide), h_bs, h_a1, h_a2, h_b, h_deadTime, h_load, h_measure, h_before, h_low, h_high, h_setpoint, ?_, h_guard, h_share, ?_, ?_, h_follows, h_hasMaster, h_isStarved, h_held, h_sum, h_lastError, h_lastRate, ?_, h_center, h_height, h_band, h_isUp, h_gone, h_risings, h_second, h_greatest, h_least, h_period, h_swing, h_gain, h_past, ?_, h_sched, h_i_lim, h_i_gb, h_i_md, h_i_dt, h_i_me, h_i_st, h_i_up, h_i_gl, h_i_sw, h_i_rl, h_i_m0⟩
  · show e3 (f_X6_setMode_m_integral (ym_m_measure M) (ym_m_before M) (ym_m_past M) (ym_m_gain M) (ym_m_setpoint M) (ym_m_integral M) (ym_m_mode M) (ym_m_hasMaster M) lp mov) (yl_kig T.1) (yl_kig T.2.1) (yl_kig T.2.2)
    simp only [f_X6_setMode_m_integral, if_pos hz]
    exact h_integral
  · show e3 (f_X6_setMode_m_mode (ym_m_mode M) (ym_m_hasMaster M) lp mov) (yl_lmo T.1) (yl_lmo T.2.1) (yl_lmo T.2.2)
    simp only [f_X6_setMode_m_mode, if_pos hz]
    exact h_mode
  · show e3 (f_X6_setMode_m_hand (ym_m_past M) (ym_m_mode M) (ym_m_hand M) (ym_m_hasMaster M) lp mov) (yl_lha T.1) (yl_lha T.2.1) (yl_lha T.2.2)
    simp only [f_X6_setMode_m_hand, if_pos hz]
    exact h_hand
  · show e3 (f_X6_setMode_m_experiment (ym_m_mode M) (ym_m_hasMaster M) (ym_m_experiment M) lp mov) (yl_rpr T.1) (yl_rpr T.2.1) (yl_rpr T.2.2)
    simp only [f_X6_setMode_m_experiment, if_pos hz]
    exact h_experiment
  · show (Rgo (yl_lmo T.1) (yl_kgo T.1) ((f_X6_setMode_m_goesOn (ym_m_mode M) (ym_m_hasMaster M) (ym_m_goesOn M) lp mov) 0)) ∧ (Rgo (yl_lmo T.2.1) (yl_kgo T.2.1) ((f_X6_setMode_m_goesOn (ym_m_mode M) (ym_m_hasMaster M) (ym_m_goesOn M) lp mov) 1)) ∧ (Rgo (yl_lmo T.2.2) (yl_kgo T.2.2) ((f_X6_setMode_m_goesOn (ym_m_mode M) (ym_m_hasMaster M) (ym_m_goesOn M) lp mov) 2))
    simp only [f_X6_setMode_m_goesOn, if_pos hz]
    exact h_go
end RO
