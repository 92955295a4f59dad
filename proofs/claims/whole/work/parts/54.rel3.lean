section RO
variable {T : LT × LT × LT} {bs : Int32} {M : MT}
set_option maxHeartbeats 1000000 in
theorem rel_measure_0 (hR : Rel T bs M) (uo : Nat → Int64) : rm_thrown (um_measure M 0 ) = lr_measure T.1  ∧ (lr_measure T.1  = 0 → lo_measure T.1 uo  (0 : Int32).toNatClampNeg = (rm_measure M 0 )) ∧ Rel ((lu_measure T.1 ), T.2.1, T.2.2) bs (um_measure M 0 ) := by
  obtain ⟨h_bs, h_a1, h_a2, h_b, h_deadTime, h_load, h_measure, h_before, h_low, h_high, h_setpoint, h_integral, h_guard, h_share, h_mode, h_hand, h_follows, h_hasMaster, h_isStarved, h_held, h_sum, h_lastError, h_lastRate, h_experiment, h_center, h_height, h_band, h_isUp, h_gone, h_risings, h_second, h_greatest, h_least, h_period, h_swing, h_gain, h_past, h_go, h_sched, h_i_lim, h_i_gb, h_i_md, h_i_dt, h_i_me, h_i_st, h_i_up, h_i_gl, h_i_sw, h_i_rl, h_i_m0⟩ := Rel_iff.mp hR
  have hcd : (f_X6_isAsked_j1_1 0) = 0 := by simp only [f_X6_isAsked_j1_1, il_0]; decide
  have hz : ¬ f_X6_can_j1_1 (f_X6_isAsked_j1_1 0) = 0 := can_ok hcd
  refine ⟨?_, fun _ => ?_, h_bs, h_a1, h_a2, h_b, h_deadTime, h_load, h_measure, h_before, h_low, h_high, h_setpoint, h_integral, h_guard, h_share, h_mode, h_hand, h_follows, h_hasMaster, h_isStarved, h_held, h_sum, h_lastError, h_lastRate, h_experiment, h_center, h_height, h_band, h_isUp, h_gone, h_risings, h_second, h_greatest, h_least, h_period, h_swing, h_gain, h_past, h_go, h_sched, h_i_lim, h_i_gb, h_i_md, h_i_dt, h_i_me, h_i_st, h_i_up, h_i_gl, h_i_sw, h_i_rl, h_i_m0⟩
  · exact hcd
  · show (f_L_measure_uo (yl_pme T.1) uo) (0 : Int32).toNatClampNeg = (f_X6_measure_j1_1 (ym_m_measure M) 0)
    simp only [f_L_measure_uo, f_X6_measure_j1_1, f_X6_isAsked_r, if_neg hz]
    rw [ul_eq]
    exact (h_measure.1).symm
set_option maxHeartbeats 1000000 in
theorem rel_measure_1 (hR : Rel T bs M) (uo : Nat → Int64) : rm_thrown (um_measure M 1 ) = lr_measure T.2.1  ∧ (lr_measure T.2.1  = 0 → lo_measure T.2.1 uo  (0 : Int32).toNatClampNeg = (rm_measure M 1 )) ∧ Rel (T.1, (lu_measure T.2.1 ), T.2.2) bs (um_measure M 1 ) := by
  obtain ⟨h_bs, h_a1, h_a2, h_b, h_deadTime, h_load, h_measure, h_before, h_low, h_high, h_setpoint, h_integral, h_guard, h_share, h_mode, h_hand, h_follows, h_hasMaster, h_isStarved, h_held, h_sum, h_lastError, h_lastRate, h_experiment, h_center, h_height, h_band, h_isUp, h_gone, h_risings, h_second, h_greatest, h_least, h_period, h_swing, h_gain, h_past, h_go, h_sched, h_i_lim, h_i_gb, h_i_md, h_i_dt, h_i_me, h_i_st, h_i_up, h_i_gl, h_i_sw, h_i_rl, h_i_m0⟩ := Rel_iff.mp hR
  have hcd : (f_X6_isAsked_j1_1 1) = 0 := by simp only [f_X6_isAsked_j1_1, il_1]; decide
  have hz : ¬ f_X6_can_j1_1 (f_X6_isAsked_j1_1 1) = 0 := can_ok hcd
  refine ⟨?_, fun _ => ?_, h_bs, h_a1, h_a2, h_b, h_deadTime, h_load, h_measure, h_before, h_low, h_high, h_setpoint, h_integral, h_guard, h_share, h_mode, h_hand, h_follows, h_hasMaster, h_isStarved, h_held, h_sum, h_lastError, h_lastRate, h_experiment, h_center, h_height, h_band, h_isUp, h_gone, h_risings, h_second, h_greatest, h_least, h_period, h_swing, h_gain, h_past, h_go, h_sched, h_i_lim, h_i_gb, h_i_md, h_i_dt, h_i_me, h_i_st, h_i_up, h_i_gl, h_i_sw, h_i_rl, h_i_m0⟩
  · exact hcd
  · show (f_L_measure_uo (yl_pme T.2.1) uo) (0 : Int32).toNatClampNeg = (f_X6_measure_j1_1 (ym_m_measure M) 1)
    simp only [f_L_measure_uo, f_X6_measure_j1_1, f_X6_isAsked_r, if_neg hz]
    rw [ul_eq]
    exact (h_measure.2.1).symm
set_option maxHeartbeats 1000000 in
theorem rel_measure_2 (hR : Rel T bs M) (uo : Nat → Int64) : rm_thrown (um_measure M 2 ) = lr_measure T.2.2  ∧ (lr_measure T.2.2  = 0 → lo_measure T.2.2 uo  (0 : Int32).toNatClampNeg = (rm_measure M 2 )) ∧ Rel (T.1, T.2.1, (lu_measure T.2.2 )) bs (um_measure M 2 ) := by
  obtain ⟨h_bs, h_a1, h_a2, h_b, h_deadTime, h_load, h_measure, h_before, h_low, h_high, h_setpoint, h_integral, h_guard, h_share, h_mode, h_hand, h_follows, h_hasMaster, h_isStarved, h_held, h_sum, h_lastError, h_lastRate, h_experiment, h_center, h_height, h_band, h_isUp, h_gone, h_risings, h_second, h_greatest, h_least, h_period, h_swing, h_gain, h_past, h_go, h_sched, h_i_lim, h_i_gb, h_i_md, h_i_dt, h_i_me, h_i_st, h_i_up, h_i_gl, h_i_sw, h_i_rl, h_i_m0⟩ := Rel_iff.mp hR
  have hcd : (f_X6_isAsked_j1_1 2) = 0 := by simp only [f_X6_isAsked_j1_1, il_2]; decide
  have hz : ¬ f_X6_can_j1_1 (f_X6_isAsked_j1_1 2) = 0 := can_ok hcd
  refine ⟨?_, fun _ => ?_, h_bs, h_a1, h_a2, h_b, h_deadTime, h_load, h_measure, h_before, h_low, h_high, h_setpoint, h_integral, h_guard, h_share, h_mode, h_hand, h_follows, h_hasMaster, h_isStarved, h_held, h_sum, h_lastError, h_lastRate, h_experiment, h_center, h_height, h_band, h_isUp, h_gone, h_risings, h_second, h_greatest, h_least, h_period, h_swing, h_gain, h_past, h_go, h_sched, h_i_lim, h_i_gb, h_i_md, h_i_dt, h_i_me, h_i_st, h_i_up, h_i_gl, h_i_sw, h_i_rl, h_i_m0⟩
  · exact hcd
  · show (f_L_measure_uo (yl_pme T.2.2) uo) (0 : Int32).toNatClampNeg = (f_X6_measure_j1_1 (ym_m_measure M) 2)
    simp only [f_L_measure_uo, f_X6_measure_j1_1, f_X6_isAsked_r, if_neg hz]
    rw [ul_eq]
    exact (h_measure.2.2).symm
theorem rel_measure (hR : Rel T bs M) (lp : Int32) (uo : Nat → Int64) : rm_thrown (um_measure M lp ) = ofL T lp (fun s => lr_measure s ) 1 ∧ (ofL T lp (fun s => lr_measure s ) 1 = 0 → (ofL T lp (fun s => lo_measure s uo ) uo) (0 : Int32).toNatClampNeg = (rm_measure M lp )) ∧ Rel (onL T lp (fun s => lu_measure s )) bs (um_measure M lp ) := by
  by_cases h0 : lp = 0
  · subst h0
    rw [ofL_0, ofL_0, onL_0]
    exact rel_measure_0 hR  uo
  by_cases h1 : lp = 1
  · subst h1
    rw [ofL_1, ofL_1, onL_1]
    exact rel_measure_1 hR  uo
  by_cases h2 : lp = 2
  · subst h2
    rw [ofL_2, ofL_2, onL_2]
    exact rel_measure_2 hR  uo
  rw [ofL_o T _ _ h0 h1 h2, ofL_o T _ _ h0 h1 h2, onL_o T _ h0 h1 h2]
  have hcd : (f_X6_isAsked_j1_1 lp) = 1 := by simp only [f_X6_isAsked_j1_1, il_o h0 h1 h2]; rfl
  have hz : f_X6_can_j1_1 (f_X6_isAsked_j1_1 lp) = 0 := can_no (by rw [hcd]; decide)
  obtain ⟨h_bs, h_a1, h_a2, h_b, h_deadTime, h_load, h_measure, h_before, h_low, h_high, h_setpoint, h_integral, h_guard, h_share, h_mode, h_hand, h_follows, h_hasMaster, h_isStarved, h_held, h_sum, h_lastError, h_lastRate, h_experiment, h_center, h_height, h_band, h_isUp, h_gone, h_risings, h_second, h_greatest, h_least, h_period, h_swing, h_gain, h_past, h_go, h_sched, h_i_lim, h_i_gb, h_i_md, h_i_dt, h_i_me, h_i_st, h_i_up, h_i_gl, h_i_sw, h_i_rl, h_i_m0⟩ := Rel_iff.mp hR
  refine ⟨hcd, fun h => absurd h (by decide), h_bs, h_a1, h_a2, h_b, h_deadTime, h_load, h_measure, h_before, h_low, h_high, h_setpoint, h_integral, h_guard, h_share, h_mode, h_hand, h_follows, h_hasMaster, h_isStarved, h_held, h_sum, h_lastError, h_lastRate, h_experiment, h_center, h_height, h_band, h_isUp, h_gone, h_risings, h_second, h_greatest, h_least, h_period, h_swing, h_gain, h_past, h_go, h_sched, h_i_lim, h_i_gb, h_i_md, h_i_dt, h_i_me, h_i_st, h_i_up, h_i_gl, h_i_sw, h_i_rl, h_i_m0⟩
set_option maxHeartbeats 1000000 in
theorem rel_output_0 (hR : Rel T bs M) (uo : Nat → Int64) : rm_thrown (um_output M 0 ) = lr_output T.1  ∧ (lr_output T.1  = 0 → lo_output T.1 uo  (0 : Int32).toNatClampNeg = (rm_output M 0 )) ∧ Rel ((lu_output T.1 ), T.2.1, T.2.2) bs (um_output M 0 ) := by
  obtain ⟨h_bs, h_a1, h_a2, h_b, h_deadTime, h_load, h_measure, h_before, h_low, h_high, h_setpoint, h_integral, h_guard, h_share, h_mode, h_hand, h_follows, h_hasMaster, h_isStarved, h_held, h_sum, h_lastError, h_lastRate, h_experiment, h_center, h_height, h_band, h_isUp, h_gone, h_risings, h_second, h_greatest, h_least, h_period, h_swing, h_gain, h_past, h_go, h_sched, h_i_lim, h_i_gb, h_i_md, h_i_dt, h_i_me, h_i_st, h_i_up, h_i_gl, h_i_sw, h_i_rl, h_i_m0⟩ := Rel_iff.mp hR
  have hcd : (f_X6_isAsked_j1_1 0) = 0 := by simp only [f_X6_isAsked_j1_1, il_0]; decide
  have hz : ¬ f_X6_can_j1_1 (f_X6_isAsked_j1_1 0) = 0 := can_ok hcd
  refine ⟨?_, fun _ => ?_, h_bs, h_a1, h_a2, h_b, h_deadTime, h_load, h_measure, h_before, h_low, h_high, h_setpoint, h_integral, h_guard, h_share, h_mode, h_hand, h_follows, h_hasMaster, h_isStarved, h_held, h_sum, h_lastError, h_lastRate, h_experiment, h_center, h_height, h_band, h_isUp, h_gone, h_risings, h_second, h_greatest, h_least, h_period, h_swing, h_gain, h_past, h_go, h_sched, h_i_lim, h_i_gb, h_i_md, h_i_dt, h_i_me, h_i_st, h_i_up, h_i_gl, h_i_sw, h_i_rl, h_i_m0⟩
  · exact hcd
  · show (f_L_output_uo (yl_lou T.1) uo) (0 : Int32).toNatClampNeg = (f_X6_output_j1_1 (ym_m_past M) 0)
    simp only [f_L_output_uo, f_X6_output_j1_1, f_X6_isAsked_r, if_neg hz]
    rw [ul_eq]
    exact rp_out (h_past.1)
set_option maxHeartbeats 1000000 in
theorem rel_output_1 (hR : Rel T bs M) (uo : Nat → Int64) : rm_thrown (um_output M 1 ) = lr_output T.2.1  ∧ (lr_output T.2.1  = 0 → lo_output T.2.1 uo  (0 : Int32).toNatClampNeg = (rm_output M 1 )) ∧ Rel (T.1, (lu_output T.2.1 ), T.2.2) bs (um_output M 1 ) := by
  obtain ⟨h_bs, h_a1, h_a2, h_b, h_deadTime, h_load, h_measure, h_before, h_low, h_high, h_setpoint, h_integral, h_guard, h_share, h_mode, h_hand, h_follows, h_hasMaster, h_isStarved, h_held, h_sum, h_lastError, h_lastRate, h_experiment, h_center, h_height, h_band, h_isUp, h_gone, h_risings, h_second, h_greatest, h_least, h_period, h_swing, h_gain, h_past, h_go, h_sched, h_i_lim, h_i_gb, h_i_md, h_i_dt, h_i_me, h_i_st, h_i_up, h_i_gl, h_i_sw, h_i_rl, h_i_m0⟩ := Rel_iff.mp hR
  have hcd : (f_X6_isAsked_j1_1 1) = 0 := by simp only [f_X6_isAsked_j1_1, il_1]; decide
  have hz : ¬ f_X6_can_j1_1 (f_X6_isAsked_j1_1 1) = 0 := can_ok hcd
  refine ⟨?_, fun _ => ?_, h_bs, h_a1, h_a2, h_b, h_deadTime, h_load, h_measure, h_before, h_low, h_high, h_setpoint, h_integral, h_guard, h_share, h_mode, h_hand, h_follows, h_hasMaster, h_isStarved, h_held, h_sum, h_lastError, h_lastRate, h_experiment, h_center, h_height, h_band, h_isUp, h_gone, h_risings, h_second, h_greatest, h_least, h_period, h_swing, h_gain, h_past, h_go, h_sched, h_i_lim, h_i_gb, h_i_md, h_i_dt, h_i_me, h_i_st, h_i_up, h_i_gl, h_i_sw, h_i_rl, h_i_m0⟩
  · exact hcd
  · show (f_L_output_uo (yl_lou T.2.1) uo) (0 : Int32).toNatClampNeg = (f_X6_output_j1_1 (ym_m_past M) 1)
    simp only [f_L_output_uo, f_X6_output_j1_1, f_X6_isAsked_r, if_neg hz]
    rw [ul_eq]
    exact rp_out (h_past.2.1)
set_option maxHeartbeats 1000000 in
theorem rel_output_2 (hR : Rel T bs M) (uo : Nat → Int64) : rm_thrown (um_output M 2 ) = lr_output T.2.2  ∧ (lr_output T.2.2  = 0 → lo_output T.2.2 uo  (0 : Int32).toNatClampNeg = (rm_output M 2 )) ∧ Rel (T.1, T.2.1, (lu_output T.2.2 )) bs (um_output M 2 ) := by
  obtain ⟨h_bs, h_a1, h_a2, h_b, h_deadTime, h_load, h_measure, h_before, h_low, h_high, h_setpoint, h_integral, h_guard, h_share, h_mode, h_hand, h_follows, h_hasMaster, h_isStarved, h_held, h_sum, h_lastError, h_lastRate, h_experiment, h_center, h_height, h_band, h_isUp, h_gone, h_risings, h_second, h_greatest, h_least, h_period, h_swing, h_gain, h_past, h_go, h_sched, h_i_lim, h_i_gb, h_i_md, h_i_dt, h_i_me, h_i_st, h_i_up, h_i_gl, h_i_sw, h_i_rl, h_i_m0⟩ := Rel_iff.mp hR
  have hcd : (f_X6_isAsked_j1_1 2) = 0 := by simp only [f_X6_isAsked_j1_1, il_2]; decide
  have hz : ¬ f_X6_can_j1_1 (f_X6_isAsked_j1_1 2) = 0 := can_ok hcd
  refine ⟨?_, fun _ => ?_, h_bs, h_a1, h_a2, h_b, h_deadTime, h_load, h_measure, h_before, h_low, h_high, h_setpoint, h_integral, h_guard, h_share, h_mode, h_hand, h_follows, h_hasMaster, h_isStarved, h_held, h_sum, h_lastError, h_lastRate, h_experiment, h_center, h_height, h_band, h_isUp, h_gone, h_risings, h_second, h_greatest, h_least, h_period, h_swing, h_gain, h_past, h_go, h_sched, h_i_lim, h_i_gb, h_i_md, h_i_dt, h_i_me, h_i_st, h_i_up, h_i_gl, h_i_sw, h_i_rl, h_i_m0⟩
  · exact hcd
  · show (f_L_output_uo (yl_lou T.2.2) uo) (0 : Int32).toNatClampNeg = (f_X6_output_j1_1 (ym_m_past M) 2)
    simp only [f_L_output_uo, f_X6_output_j1_1, f_X6_isAsked_r, if_neg hz]
    rw [ul_eq]
    exact rp_out (h_past.2.2)
theorem rel_output (hR : Rel T bs M) (lp : Int32) (uo : Nat → Int64) : rm_thrown (um_output M lp ) = ofL T lp (fun s => lr_output s ) 1 ∧ (ofL T lp (fun s => lr_output s ) 1 = 0 → (ofL T lp (fun s => lo_output s uo ) uo) (0 : Int32).toNatClampNeg = (rm_output M lp )) ∧ Rel (onL T lp (fun s => lu_output s )) bs (um_output M lp ) := by
  by_cases h0 : lp = 0
  · subst h0
    rw [ofL_0, ofL_0, onL_0]
    exact rel_output_0 hR  uo
  by_cases h1 : lp = 1
  · subst h1
    rw [ofL_1, ofL_1, onL_1]
    exact rel_output_1 hR  uo
  by_cases h2 : lp = 2
  · subst h2
    rw [ofL_2, ofL_2, onL_2]
    exact rel_output_2 hR  uo
  rw [ofL_o T _ _ h0 h1 h2, ofL_o T _ _ h0 h1 h2, onL_o T _ h0 h1 h2]
  have hcd : (f_X6_isAsked_j1_1 lp) = 1 := by simp only [f_X6_isAsked_j1_1, il_o h0 h1 h2]; rfl
  have hz : f_X6_can_j1_1 (f_X6_isAsked_j1_1 lp) = 0 := can_no (by rw [hcd]; decide)
  obtain ⟨h_bs, h_a1, h_a2, h_b, h_deadTime, h_load, h_measure, h_before, h_low, h_high, h_setpoint, h_integral, h_guard, h_share, h_mode, h_hand, h_follows, h_hasMaster, h_isStarved, h_held, h_sum, h_lastError, h_lastRate, h_experiment, h_center, h_height, h_band, h_isUp, h_gone, h_risings, h_second, h_greatest, h_least, h_period, h_swing, h_gain, h_past, h_go, h_sched, h_i_lim, h_i_gb, h_i_md, h_i_dt, h_i_me, h_i_st, h_i_up, h_i_gl, h_i_sw, h_i_rl, h_i_m0⟩ := Rel_iff.mp hR
  refine ⟨hcd, fun h => absurd h (by decide), h_bs, h_a1, h_a2, h_b, h_deadTime, h_load, h_measure, h_before, h_low, h_high, h_setpoint, h_integral, h_guard, h_share, h_mode, h_hand, h_follows, h_hasMaster, h_isStarved, h_held, h_sum, h_lastError, h_lastRate, h_experiment, h_center, h_height, h_band, h_isUp, h_gone, h_risings, h_second, h_greatest, h_least, h_period, h_swing, h_gain, h_past, h_go, h_sched, h_i_lim, h_i_gb, h_i_md, h_i_dt, h_i_me, h_i_st, h_i_up, h_i_gl, h_i_sw, h_i_rl, h_i_m0⟩
set_option maxHeartbeats 1000000 in
theorem rel_outputByIncrements_0 (hR : Rel T bs M) (uo : Nat → Int64) : rm_thrown (um_outputByIncrements M 0 ) = lr_outputByIncrements T.1  ∧ (lr_outputByIncrements T.1  = 0 → lo_outputByIncrements T.1 uo  (0 : Int32).toNatClampNeg = (rm_outputByIncrements M 0 )) ∧ Rel ((lu_outputByIncrements T.1 ), T.2.1, T.2.2) bs (um_outputByIncrements M 0 ) := by
  obtain ⟨h_bs, h_a1, h_a2, h_b, h_deadTime, h_load, h_measure, h_before, h_low, h_high, h_setpoint, h_integral, h_guard, h_share, h_mode, h_hand, h_follows, h_hasMaster, h_isStarved, h_held, h_sum, h_lastError, h_lastRate, h_experiment, h_center, h_height, h_band, h_isUp, h_gone, h_risings, h_second, h_greatest, h_least, h_period, h_swing, h_gain, h_past, h_go, h_sched, h_i_lim, h_i_gb, h_i_md, h_i_dt, h_i_me, h_i_st, h_i_up, h_i_gl, h_i_sw, h_i_rl, h_i_m0⟩ := Rel_iff.mp hR
  have hcd : (f_X6_isAsked_j1_1 0) = 0 := by simp only [f_X6_isAsked_j1_1, il_0]; decide
  have hz : ¬ f_X6_can_j1_1 (f_X6_isAsked_j1_1 0) = 0 := can_ok hcd
  refine ⟨?_, fun _ => ?_, h_bs, h_a1, h_a2, h_b, h_deadTime, h_load, h_measure, h_before, h_low, h_high, h_setpoint, h_integral, h_guard, h_share, h_mode, h_hand, h_follows, h_hasMaster, h_isStarved, h_held, h_sum, h_lastError, h_lastRate, h_experiment, h_center, h_height, h_band, h_isUp, h_gone, h_risings, h_second, h_greatest, h_least, h_period, h_swing, h_gain, h_past, h_go, h_sched, h_i_lim, h_i_gb, h_i_md, h_i_dt, h_i_me, h_i_st, h_i_up, h_i_gl, h_i_sw, h_i_rl, h_i_m0⟩
  · exact hcd
  · show (f_L_outputByIncrements_uo (yl_ksu T.1) uo) (0 : Int32).toNatClampNeg = (f_X6_outputByIncrements_j1_1 (ym_m_sum M) 0)
    simp only [f_L_outputByIncrements_uo, f_X6_outputByIncrements_j1_1, f_X6_isAsked_r, if_neg hz]
    rw [ul_eq]
    exact (fd_eq _).trans (congrArg (fun z => f_X6_floor_j1_1 z 1000) (h_sum.1).symm)
set_option maxHeartbeats 1000000 in
theorem rel_outputByIncrements_1 (hR : Rel T bs M) (uo : Nat → Int64) : rm_thrown (um_outputByIncrements M 1 ) = lr_outputByIncrements T.2.1  ∧ (lr_outputByIncrements T.2.1  = 0 → lo_outputByIncrements T.2.1 uo  (0 : Int32).toNatClampNeg = (rm_outputByIncrements M 1 )) ∧ Rel (T.1, (lu_outputByIncrements T.2.1 ), T.2.2) bs (um_outputByIncrements M 1 ) := by
  obtain ⟨h_bs, h_a1, h_a2, h_b, h_deadTime, h_load, h_measure, h_before, h_low, h_high, h_setpoint, h_integral, h_guard, h_share, h_mode, h_hand, h_follows, h_hasMaster, h_isStarved, h_held, h_sum, h_lastError, h_lastRate, h_experiment, h_center, h_height, h_band, h_isUp, h_gone, h_risings, h_second, h_greatest, h_least, h_period, h_swing, h_gain, h_past, h_go, h_sched, h_i_lim, h_i_gb, h_i_md, h_i_dt, h_i_me, h_i_st, h_i_up, h_i_gl, h_i_sw, h_i_rl, h_i_m0⟩ := Rel_iff.mp hR
  have hcd : (f_X6_isAsked_j1_1 1) = 0 := by simp only [f_X6_isAsked_j1_1, il_1]; decide
  have hz : ¬ f_X6_can_j1_1 (f_X6_isAsked_j1_1 1) = 0 := can_ok hcd
  refine ⟨?_, fun _ => ?_, h_bs, h_a1, h_a2, h_b, h_deadTime, h_load, h_measure, h_before, h_low, h_high, h_setpoint, h_integral, h_guard, h_share, h_mode, h_hand, h_follows, h_hasMaster, h_isStarved, h_held, h_sum, h_lastError, h_lastRate, h_experiment, h_center, h_height, h_band, h_isUp, h_gone, h_risings, h_second, h_greatest, h_least, h_period, h_swing, h_gain, h_past, h_go, h_sched, h_i_lim, h_i_gb, h_i_md, h_i_dt, h_i_me, h_i_st, h_i_up, h_i_gl, h_i_sw, h_i_rl, h_i_m0⟩
  · exact hcd
  · show (f_L_outputByIncrements_uo (yl_ksu T.2.1) uo) (0 : Int32).toNatClampNeg = (f_X6_outputByIncrements_j1_1 (ym_m_sum M) 1)
    simp only [f_L_outputByIncrements_uo, f_X6_outputByIncrements_j1_1, f_X6_isAsked_r, if_neg hz]
    rw [ul_eq]
    exact (fd_eq _).trans (congrArg (fun z => f_X6_floor_j1_1 z 1000) (h_sum.2.1).symm)
set_option maxHeartbeats 1000000 in
theorem rel_outputByIncrements_2 (hR : Rel T bs M) (uo : Nat → Int64) : rm_thrown (um_outputByIncrements M 2 ) = lr_outputByIncrements T.2.2  ∧ (lr_outputByIncrements T.2.2  = 0 → lo_outputByIncrements T.2.2 uo  (0 : Int32).toNatClampNeg = (rm_outputByIncrements M 2 )) ∧ Rel (T.1, T.2.1, (lu_outputByIncrements T.2.2 )) bs (um_outputByIncrements M 2 ) := by
  obtain ⟨h_bs, h_a1, h_a2, h_b, h_deadTime, h_load, h_measure, h_before, h_low, h_high, h_setpoint, h_integral, h_guard, h_share, h_mode, h_hand, h_follows, h_hasMaster, h_isStarved, h_held, h_sum, h_lastError, h_lastRate, h_experiment, h_center, h_height, h_band, h_isUp, h_gone, h_risings, h_second, h_greatest, h_least, h_period, h_swing, h_gain, h_past, h_go, h_sched, h_i_lim, h_i_gb, h_i_md, h_i_dt, h_i_me, h_i_st, h_i_up, h_i_gl, h_i_sw, h_i_rl, h_i_m0⟩ := Rel_iff.mp hR
  have hcd : (f_X6_isAsked_j1_1 2) = 0 := by simp only [f_X6_isAsked_j1_1, il_2]; decide
  have hz : ¬ f_X6_can_j1_1 (f_X6_isAsked_j1_1 2) = 0 := can_ok hcd
  refine ⟨?_, fun _ => ?_, h_bs, h_a1, h_a2, h_b, h_deadTime, h_load, h_measure, h_before, h_low, h_high, h_setpoint, h_integral, h_guard, h_share, h_mode, h_hand, h_follows, h_hasMaster, h_isStarved, h_held, h_sum, h_lastError, h_lastRate, h_experiment, h_center, h_height, h_band, h_isUp, h_gone, h_risings, h_second, h_greatest, h_least, h_period, h_swing, h_gain, h_past, h_go, h_sched, h_i_lim, h_i_gb, h_i_md, h_i_dt, h_i_me, h_i_st, h_i_up, h_i_gl, h_i_sw, h_i_rl, h_i_m0⟩
  · exact hcd
  · show (f_L_outputByIncrements_uo (yl_ksu T.2.2) uo) (0 : Int32).toNatClampNeg = (f_X6_outputByIncrements_j1_1 (ym_m_sum M) 2)
    simp only [f_L_outputByIncrements_uo, f_X6_outputByIncrements_j1_1, f_X6_isAsked_r, if_neg hz]
    rw [ul_eq]
    exact (fd_eq _).trans (congrArg (fun z => f_X6_floor_j1_1 z 1000) (h_sum.2.2).symm)
theorem rel_outputByIncrements (hR : Rel T bs M) (lp : Int32) (uo : Nat → Int64) : rm_thrown (um_outputByIncrements M lp ) = ofL T lp (fun s => lr_outputByIncrements s ) 1 ∧ (ofL T lp (fun s => lr_outputByIncrements s ) 1 = 0 → (ofL T lp (fun s => lo_outputByIncrements s uo ) uo) (0 : Int32).toNatClampNeg = (rm_outputByIncrements M lp )) ∧ Rel (onL T lp (fun s => lu_outputByIncrements s )) bs (um_outputByIncrements M lp ) := by
  by_cases h0 : lp = 0
  · subst h0
    rw [ofL_0, ofL_0, onL_0]
    exact rel_outputByIncrements_0 hR  uo
  by_cases h1 : lp = 1
  · subst h1
    rw [ofL_1, ofL_1, onL_1]
    exact rel_outputByIncrements_1 hR  uo
  by_cases h2 : lp = 2
  · subst h2
    rw [ofL_2, ofL_2, onL_2]
    exact rel_outputByIncrements_2 hR  uo
  rw [ofL_o T _ _ h0 h1 h2, ofL_o T _ _ h0 h1 h2, onL_o T _ h0 h1 h2]
  have hcd : (f_X6_isAsked_j1_1 lp) = 1 := by simp only [f_X6_isAsked_j1_1, il_o h0 h1 h2]; rfl
  have hz : f_X6_can_j1_1 (f_X6_isAsked_j1_1 lp) = 0 := can_no (by rw [hcd]; decide)
  obtain ⟨h_bs, h_a1, h_a2, h_b, h_deadTime, h_load, h_measure, h_before, h_low, h_high, h_setpoint, h_integral, h_guard, h_share, h_mode, h_hand, h_follows, h_hasMaster, h_isStarved, h_held, h_sum, h_lastError, h_lastRate, h_experiment, h_center, h_height, h_band, h_isUp, h_gone, h_risings, h_second, h_greatest, h_least, h_period, h_swing, h_gain, h_past, h_go, h_sched, h_i_lim, h_i_gb, h_i_md, h_i_dt, h_i_me, h_i_st, h_i_up, h_i_gl, h_i_sw, h_i_rl, h_i_m0⟩ := Rel_iff.mp hR
  refine ⟨hcd, fun h => absurd h (by decide), h_bs, h_a1, h_a2, h_b, h_deadTime, h_load, h_measure, h_before, h_low, h_high, h_setpoint, h_integral, h_guard, h_share, h_mode, h_hand, h_follows, h_hasMaster, h_isStarved, h_held, h_sum, h_lastError, h_lastRate, h_experiment, h_center, h_height, h_band, h_isUp, h_gone, h_risings, h_second, h_greatest, h_least, h_period, h_swing, h_gain, h_past, h_go, h_sched, h_i_lim, h_i_gb, h_i_md, h_i_dt, h_i_me, h_i_st, h_i_up, h_i_gl, h_i_sw, h_i_rl, h_i_m0⟩
set_option maxHeartbeats 1000000 in
theorem rel_setpoint_0 (hR : Rel T bs M) (uo : Nat → Int64) : rm_thrown (um_setpoint M 0 ) = lr_setpoint T.1  ∧ (lr_setpoint T.1  = 0 → lo_setpoint T.1 uo  (0 : Int32).toNatClampNeg = (rm_setpoint M 0 )) ∧ Rel ((lu_setpoint T.1 ), T.2.1, T.2.2) bs (um_setpoint M 0 ) := by
  obtain ⟨h_bs, h_a1, h_a2, h_b, h_deadTime, h_load, h_measure, h_before, h_low, h_high, h_setpoint, h_integral, h_guard, h_share, h_mode, h_hand, h_follows, h_hasMaster, h_isStarved, h_held, h_sum, h_lastError, h_lastRate, h_experiment, h_center, h_height, h_band, h_isUp, h_gone, h_risings, h_second, h_greatest, h_least, h_period, h_swing, h_gain, h_past, h_go, h_sched, h_i_lim, h_i_gb, h_i_md, h_i_dt, h_i_me, h_i_st, h_i_up, h_i_gl, h_i_sw, h_i_rl, h_i_m0⟩ := Rel_iff.mp hR
  have hcd : (f_X6_isAsked_j1_1 0) = 0 := by simp only [f_X6_isAsked_j1_1, il_0]; decide
  have hz : ¬ f_X6_can_j1_1 (f_X6_isAsked_j1_1 0) = 0 := can_ok hcd
  refine ⟨?_, fun _ => ?_, h_bs, h_a1, h_a2, h_b, h_deadTime, h_load, h_measure, h_before, h_low, h_high, h_setpoint, h_integral, h_guard, h_share, h_mode, h_hand, h_follows, h_hasMaster, h_isStarved, h_held, h_sum, h_lastError, h_lastRate, h_experiment, h_center, h_height, h_band, h_isUp, h_gone, h_risings, h_second, h_greatest, h_least, h_period, h_swing, h_gain, h_past, h_go, h_sched, h_i_lim, h_i_gb, h_i_md, h_i_dt, h_i_me, h_i_st, h_i_up, h_i_gl, h_i_sw, h_i_rl, h_i_m0⟩
  · exact hcd
  · show (f_L_setpoint_uo (yl_ksp T.1) uo) (0 : Int32).toNatClampNeg = (f_X6_setpoint_j1_1 (ym_m_setpoint M) 0)
    simp only [f_L_setpoint_uo, f_X6_setpoint_j1_1, f_X6_isAsked_r, if_neg hz]
    rw [ul_eq]
    exact (h_setpoint.1).symm
set_option maxHeartbeats 1000000 in
theorem rel_setpoint_1 (hR : Rel T bs M) (uo : Nat → Int64) : rm_thrown (um_setpoint M 1 ) = lr_setpoint T.2.1  ∧ (lr_setpoint T.2.1  = 0 → lo_setpoint T.2.1 uo  (0 : Int32).toNatClampNeg = (rm_setpoint M 1 )) ∧ Rel (T.1, (lu_setpoint T.2.1 ), T.2.2) bs (um_setpoint M 1 ) := by
  obtain ⟨h_bs, h_a1, h_a2, h_b, h_deadTime, h_load, h_measure, h_before, h_low, h_high, h_setpoint, h_integral, h_guard, h_share, h_mode, h_hand, h_follows, h_hasMaster, h_isStarved, h_held, h_sum, h_lastError, h_lastRate, h_experiment, h_center, h_height, h_band, h_isUp, h_gone, h_risings, h_second, h_greatest, h_least, h_period, h_swing, h_gain, h_past, h_go, h_sched, h_i_lim, h_i_gb, h_i_md, h_i_dt, h_i_me, h_i_st, h_i_up, h_i_gl, h_i_sw, h_i_rl, h_i_m0⟩ := Rel_iff.mp hR
  have hcd : (f_X6_isAsked_j1_1 1) = 0 := by simp only [f_X6_isAsked_j1_1, il_1]; decide
  have hz : ¬ f_X6_can_j1_1 (f_X6_isAsked_j1_1 1) = 0 := can_ok hcd
  refine ⟨?_, fun _ => ?_, h_bs, h_a1, h_a2, h_b, h_deadTime, h_load, h_measure, h_before, h_low, h_high, h_setpoint, h_integral, h_guard, h_share, h_mode, h_hand, h_follows, h_hasMaster, h_isStarved, h_held, h_sum, h_lastError, h_lastRate, h_experiment, h_center, h_height, h_band, h_isUp, h_gone, h_risings, h_second, h_greatest, h_least, h_period, h_swing, h_gain, h_past, h_go, h_sched, h_i_lim, h_i_gb, h_i_md, h_i_dt, h_i_me, h_i_st, h_i_up, h_i_gl, h_i_sw, h_i_rl, h_i_m0⟩
  · exact hcd
  · show (f_L_setpoint_uo (yl_ksp T.2.1) uo) (0 : Int32).toNatClampNeg = (f_X6_setpoint_j1_1 (ym_m_setpoint M) 1)
    simp only [f_L_setpoint_uo, f_X6_setpoint_j1_1, f_X6_isAsked_r, if_neg hz]
    rw [ul_eq]
    exact (h_setpoint.2.1).symm
set_option maxHeartbeats 1000000 in
theorem rel_setpoint_2 (hR : Rel T bs M) (uo : Nat → Int64) : rm_thrown (um_setpoint M 2 ) = lr_setpoint T.2.2  ∧ (lr_setpoint T.2.2  = 0 → lo_setpoint T.2.2 uo  (0 : Int32).toNatClampNeg = (rm_setpoint M 2 )) ∧ Rel (T.1, T.2.1, (lu_setpoint T.2.2 )) bs (um_setpoint M 2 ) := by
  obtain ⟨h_bs, h_a1, h_a2, h_b, h_deadTime, h_load, h_measure, h_before, h_low, h_high, h_setpoint, h_integral, h_guard, h_share, h_mode, h_hand, h_follows, h_hasMaster, h_isStarved, h_held, h_sum, h_lastError, h_lastRate, h_experiment, h_center, h_height, h_band, h_isUp, h_gone, h_risings, h_second, h_greatest, h_least, h_period, h_swing, h_gain, h_past, h_go, h_sched, h_i_lim, h_i_gb, h_i_md, h_i_dt, h_i_me, h_i_st, h_i_up, h_i_gl, h_i_sw, h_i_rl, h_i_m0⟩ := Rel_iff.mp hR
  have hcd : (f_X6_isAsked_j1_1 2) = 0 := by simp only [f_X6_isAsked_j1_1, il_2]; decide
  have hz : ¬ f_X6_can_j1_1 (f_X6_isAsked_j1_1 2) = 0 := can_ok hcd
  refine ⟨?_, fun _ => ?_, h_bs, h_a1, h_a2, h_b, h_deadTime, h_load, h_measure, h_before, h_low, h_high, h_setpoint, h_integral, h_guard, h_share, h_mode, h_hand, h_follows, h_hasMaster, h_isStarved, h_held, h_sum, h_lastError, h_lastRate, h_experiment, h_center, h_height, h_band, h_isUp, h_gone, h_risings, h_second, h_greatest, h_least, h_period, h_swing, h_gain, h_past, h_go, h_sched, h_i_lim, h_i_gb, h_i_md, h_i_dt, h_i_me, h_i_st, h_i_up, h_i_gl, h_i_sw, h_i_rl, h_i_m0⟩
  · exact hcd
  · show (f_L_setpoint_uo (yl_ksp T.2.2) uo) (0 : Int32).toNatClampNeg = (f_X6_setpoint_j1_1 (ym_m_setpoint M) 2)
    simp only [f_L_setpoint_uo, f_X6_setpoint_j1_1, f_X6_isAsked_r, if_neg hz]
    rw [ul_eq]
    exact (h_setpoint.2.2).symm
theorem rel_setpoint (hR : Rel T bs M) (lp : Int32) (uo : Nat → Int64) : rm_thrown (um_setpoint M lp ) = ofL T lp (fun s => lr_setpoint s ) 1 ∧ (ofL T lp (fun s => lr_setpoint s ) 1 = 0 → (ofL T lp (fun s => lo_setpoint s uo ) uo) (0 : Int32).toNatClampNeg = (rm_setpoint M lp )) ∧ Rel (onL T lp (fun s => lu_setpoint s )) bs (um_setpoint M lp ) := by
  by_cases h0 : lp = 0
  · subst h0
    rw [ofL_0, ofL_0, onL_0]
    exact rel_setpoint_0 hR  uo
  by_cases h1 : lp = 1
  · subst h1
    rw [ofL_1, ofL_1, onL_1]
    exact rel_setpoint_1 hR  uo
  by_cases h2 : lp = 2
  · subst h2
    rw [ofL_2, ofL_2, onL_2]
    exact rel_setpoint_2 hR  uo
  rw [ofL_o T _ _ h0 h1 h2, ofL_o T _ _ h0 h1 h2, onL_o T _ h0 h1 h2]
  have hcd : (f_X6_isAsked_j1_1 lp) = 1 := by simp only [f_X6_isAsked_j1_1, il_o h0 h1 h2]; rfl
  have hz : f_X6_can_j1_1 (f_X6_isAsked_j1_1 lp) = 0 := can_no (by rw [hcd]; decide)
  obtain ⟨h_bs, h_a1, h_a2, h_b, h_deadTime, h_load, h_measure, h_before, h_low, h_high, h_setpoint, h_integral, h_guard, h_share, h_mode, h_hand, h_follows, h_hasMaster, h_isStarved, h_held, h_sum, h_lastError, h_lastRate, h_experiment, h_center, h_height, h_band, h_isUp, h_gone, h_risings, h_second, h_greatest, h_least, h_period, h_swing, h_gain, h_past, h_go, h_sched, h_i_lim, h_i_gb, h_i_md, h_i_dt, h_i_me, h_i_st, h_i_up, h_i_gl, h_i_sw, h_i_rl, h_i_m0⟩ := Rel_iff.mp hR
  refine ⟨hcd, fun h => absurd h (by decide), h_bs, h_a1, h_a2, h_b, h_deadTime, h_load, h_measure, h_before, h_low, h_high, h_setpoint, h_integral, h_guard, h_share, h_mode, h_hand, h_follows, h_hasMaster, h_isStarved, h_held, h_sum, h_lastError, h_lastRate, h_experiment, h_center, h_height, h_band, h_isUp, h_gone, h_risings, h_second, h_greatest, h_least, h_period, h_swing, h_gain, h_past, h_go, h_sched, h_i_lim, h_i_gb, h_i_md, h_i_dt, h_i_me, h_i_st, h_i_up, h_i_gl, h_i_sw, h_i_rl, h_i_m0⟩
set_option maxHeartbeats 1000000 in
theorem rel_integral_0 (hR : Rel T bs M) (uo : Nat → Int64) : rm_thrown (um_integral M 0 ) = lr_integral T.1  ∧ (lr_integral T.1  = 0 → lo_integral T.1 uo  (0 : Int32).toNatClampNeg = (rm_integral M 0 )) ∧ Rel ((lu_integral T.1 ), T.2.1, T.2.2) bs (um_integral M 0 ) := by
  obtain ⟨h_bs, h_a1, h_a2, h_b, h_deadTime, h_load, h_measure, h_before, h_low, h_high, h_setpoint, h_integral, h_guard, h_share, h_mode, h_hand, h_follows, h_hasMaster, h_isStarved, h_held, h_sum, h_lastError, h_lastRate, h_experiment, h_center, h_height, h_band, h_isUp, h_gone, h_risings, h_second, h_greatest, h_least, h_period, h_swing, h_gain, h_past, h_go, h_sched, h_i_lim, h_i_gb, h_i_md, h_i_dt, h_i_me, h_i_st, h_i_up, h_i_gl, h_i_sw, h_i_rl, h_i_m0⟩ := Rel_iff.mp hR
  have hcd : (f_X6_isAsked_j1_1 0) = 0 := by simp only [f_X6_isAsked_j1_1, il_0]; decide
  have hz : ¬ f_X6_can_j1_1 (f_X6_isAsked_j1_1 0) = 0 := can_ok hcd
  refine ⟨?_, fun _ => ?_, h_bs, h_a1, h_a2, h_b, h_deadTime, h_load, h_measure, h_before, h_low, h_high, h_setpoint, h_integral, h_guard, h_share, h_mode, h_hand, h_follows, h_hasMaster, h_isStarved, h_held, h_sum, h_lastError, h_lastRate, h_experiment, h_center, h_height, h_band, h_isUp, h_gone, h_risings, h_second, h_greatest, h_least, h_period, h_swing, h_gain, h_past, h_go, h_sched, h_i_lim, h_i_gb, h_i_md, h_i_dt, h_i_me, h_i_st, h_i_up, h_i_gl, h_i_sw, h_i_rl, h_i_m0⟩
  · exact hcd
  · show (f_L_integral_uo (yl_kig T.1) uo) (0 : Int32).toNatClampNeg = (f_X6_integral_j1_1 (ym_m_integral M) 0)
    simp only [f_L_integral_uo, f_X6_integral_j1_1, f_X6_isAsked_r, if_neg hz]
    rw [ul_eq]
    exact (h_integral.1).symm
set_option maxHeartbeats 1000000 in
theorem rel_integral_1 (hR : Rel T bs M) (uo : Nat → Int64) : rm_thrown (um_integral M 1 ) = lr_integral T.2.1  ∧ (lr_integral T.2.1  = 0 → lo_integral T.2.1 uo  (0 : Int32).toNatClampNeg = (rm_integral M 1 )) ∧ Rel (T.1, (lu_integral T.2.1 ), T.2.2) bs (um_integral M 1 ) := by
  obtain ⟨h_bs, h_a1, h_a2, h_b, h_deadTime, h_load, h_measure, h_before, h_low, h_high, h_setpoint, h_integral, h_guard, h_share, h_mode, h_hand, h_follows, h_hasMaster, h_isStarved, h_held, h_sum, h_lastError, h_lastRate, h_experiment, h_center, h_height, h_band, h_isUp, h_gone, h_risings, h_second, h_greatest, h_least, h_period, h_swing, h_gain, h_past, h_go, h_sched, h_i_lim, h_i_gb, h_i_md, h_i_dt, h_i_me, h_i_st, h_i_up, h_i_gl, h_i_sw, h_i_rl, h_i_m0⟩ := Rel_iff.mp hR
  have hcd : (f_X6_isAsked_j1_1 1) = 0 := by simp only [f_X6_isAsked_j1_1, il_1]; decide
  have hz : ¬ f_X6_can_j1_1 (f_X6_isAsked_j1_1 1) = 0 := can_ok hcd
  refine ⟨?_, fun _ => ?_, h_bs, h_a1, h_a2, h_b, h_deadTime, h_load, h_measure, h_before, h_low, h_high, h_setpoint, h_integral, h_guard, h_share, h_mode, h_hand, h_follows, h_hasMaster, h_isStarved, h_held, h_sum, h_lastError, h_lastRate, h_experiment, h_center, h_height, h_band, h_isUp, h_gone, h_risings, h_second, h_greatest, h_least, h_period, h_swing, h_gain, h_past, h_go, h_sched, h_i_lim, h_i_gb, h_i_md, h_i_dt, h_i_me, h_i_st, h_i_up, h_i_gl, h_i_sw, h_i_rl, h_i_m0⟩
  · exact hcd
  · show (f_L_integral_uo (yl_kig T.2.1) uo) (0 : Int32).toNatClampNeg = (f_X6_integral_j1_1 (ym_m_integral M) 1)
    simp only [f_L_integral_uo, f_X6_integral_j1_1, f_X6_isAsked_r, if_neg hz]
    rw [ul_eq]
    exact (h_integral.2.1).symm
set_option maxHeartbeats 1000000 in
theorem rel_integral_2 (hR : Rel T bs M) (uo : Nat → Int64) : rm_thrown (um_integral M 2 ) = lr_integral T.2.2  ∧ (lr_integral T.2.2  = 0 → lo_integral T.2.2 uo  (0 : Int32).toNatClampNeg = (rm_integral M 2 )) ∧ Rel (T.1, T.2.1, (lu_integral T.2.2 )) bs (um_integral M 2 ) := by
  obtain ⟨h_bs, h_a1, h_a2, h_b, h_deadTime, h_load, h_measure, h_before, h_low, h_high, h_setpoint, h_integral, h_guard, h_share, h_mode, h_hand, h_follows, h_hasMaster, h_isStarved, h_held, h_sum, h_lastError, h_lastRate, h_experiment, h_center, h_height, h_band, h_isUp, h_gone, h_risings, h_second, h_greatest, h_least, h_period, h_swing, h_gain, h_past, h_go, h_sched, h_i_lim, h_i_gb, h_i_md, h_i_dt, h_i_me, h_i_st, h_i_up, h_i_gl, h_i_sw, h_i_rl, h_i_m0⟩ := Rel_iff.mp hR
  have hcd : (f_X6_isAsked_j1_1 2) = 0 := by simp only [f_X6_isAsked_j1_1, il_2]; decide
  have hz : ¬ f_X6_can_j1_1 (f_X6_isAsked_j1_1 2) = 0 := can_ok hcd
  refine ⟨?_, fun _ => ?_, h_bs, h_a1, h_a2, h_b, h_deadTime, h_load, h_measure, h_before, h_low, h_high, h_setpoint, h_integral, h_guard, h_share, h_mode, h_hand, h_follows, h_hasMaster, h_isStarved, h_held, h_sum, h_lastError, h_lastRate, h_experiment, h_center, h_height, h_band, h_isUp, h_gone, h_risings, h_second, h_greatest, h_least, h_period, h_swing, h_gain, h_past, h_go, h_sched, h_i_lim, h_i_gb, h_i_md, h_i_dt, h_i_me, h_i_st, h_i_up, h_i_gl, h_i_sw, h_i_rl, h_i_m0⟩
  · exact hcd
  · show (f_L_integral_uo (yl_kig T.2.2) uo) (0 : Int32).toNatClampNeg = (f_X6_integral_j1_1 (ym_m_integral M) 2)
    simp only [f_L_integral_uo, f_X6_integral_j1_1, f_X6_isAsked_r, if_neg hz]
    rw [ul_eq]
    exact (h_integral.2.2).symm
theorem rel_integral (hR : Rel T bs M) (lp : Int32) (uo : Nat → Int64) : rm_thrown (um_integral M lp ) = ofL T lp (fun s => lr_integral s ) 1 ∧ (ofL T lp (fun s => lr_integral s ) 1 = 0 → (ofL T lp (fun s => lo_integral s uo ) uo) (0 : Int32).toNatClampNeg = (rm_integral M lp )) ∧ Rel (onL T lp (fun s => lu_integral s )) bs (um_integral M lp ) := by
  by_cases h0 : lp = 0
  · subst h0
    rw [ofL_0, ofL_0, onL_0]
    exact rel_integral_0 hR  uo
  by_cases h1 : lp = 1
  · subst h1
    rw [ofL_1, ofL_1, onL_1]
    exact rel_integral_1 hR  uo
  by_cases h2 : lp = 2
  · subst h2
    rw [ofL_2, ofL_2, onL_2]
    exact rel_integral_2 hR  uo
  rw [ofL_o T _ _ h0 h1 h2, ofL_o T _ _ h0 h1 h2, onL_o T _ h0 h1 h2]
  have hcd : (f_X6_isAsked_j1_1 lp) = 1 := by simp only [f_X6_isAsked_j1_1, il_o h0 h1 h2]; rfl
  have hz : f_X6_can_j1_1 (f_X6_isAsked_j1_1 lp) = 0 := can_no (by rw [hcd]; decide)
  obtain ⟨h_bs, h_a1, h_a2, h_b, h_deadTime, h_load, h_measure, h_before, h_low, h_high, h_setpoint, h_integral, h_guard, h_share, h_mode, h_hand, h_follows, h_hasMaster, h_isStarved, h_held, h_sum, h_lastError, h_lastRate, h_experiment, h_center, h_height, h_band, h_isUp, h_gone, h_risings, h_second, h_greatest, h_least, h_period, h_swing, h_gain, h_past, h_go, h_sched, h_i_lim, h_i_gb, h_i_md, h_i_dt, h_i_me, h_i_st, h_i_up, h_i_gl, h_i_sw, h_i_rl, h_i_m0⟩ := Rel_iff.mp hR
  refine ⟨hcd, fun h => absurd h (by decide), h_bs, h_a1, h_a2, h_b, h_deadTime, h_load, h_measure, h_before, h_low, h_high, h_setpoint, h_integral, h_guard, h_share, h_mode, h_hand, h_follows, h_hasMaster, h_isStarved, h_held, h_sum, h_lastError, h_lastRate, h_experiment, h_center, h_height, h_band, h_isUp, h_gone, h_risings, h_second, h_greatest, h_least, h_period, h_swing, h_gain, h_past, h_go, h_sched, h_i_lim, h_i_gb, h_i_md, h_i_dt, h_i_me, h_i_st, h_i_up, h_i_gl, h_i_sw, h_i_rl, h_i_m0⟩
set_option maxHeartbeats 1000000 in
theorem rel_gain_0 (hR : Rel T bs M) (wh : Int32) (uo : Nat → Int64) : rm_thrown (um_gain M 0 wh) = lr_gain T.1 wh ∧ (lr_gain T.1 wh = 0 → lo_gain T.1 uo wh (0 : Int32).toNatClampNeg = (rm_gain M 0 wh).toInt64) ∧ Rel ((lu_gain T.1 wh), T.2.1, T.2.2) bs (um_gain M 0 wh) := by
  obtain ⟨h_bs, h_a1, h_a2, h_b, h_deadTime, h_load, h_measure, h_before, h_low, h_high, h_setpoint, h_integral, h_guard, h_share, h_mode, h_hand, h_follows, h_hasMaster, h_isStarved, h_held, h_sum, h_lastError, h_lastRate, h_experiment, h_center, h_height, h_band, h_isUp, h_gone, h_risings, h_second, h_greatest, h_least, h_period, h_swing, h_gain, h_past, h_go, h_sched, h_i_lim, h_i_gb, h_i_md, h_i_dt, h_i_me, h_i_st, h_i_up, h_i_gl, h_i_sw, h_i_rl, h_i_m0⟩ := Rel_iff.mp hR
  have hcd : (f_X6_gain_j1_1 0 wh) = wr1 (f_X5_gain_x wh) := cd_gain il_0
  by_cases hc : (f_X5_gain_x wh) = 0
  · have hz : ¬ f_X6_can_j1_1 (f_X6_gain_j1_1 0 wh) = 0 := can_ok (by rw [hcd]; exact w1_0 hc)
    refine ⟨?_, fun _ => ?_, h_bs, h_a1, h_a2, h_b, h_deadTime, h_load, h_measure, h_before, h_low, h_high, h_setpoint, h_integral, h_guard, h_share, h_mode, h_hand, h_follows, h_hasMaster, h_isStarved, h_held, h_sum, h_lastError, h_lastRate, h_experiment, h_center, h_height, h_band, h_isUp, h_gone, h_risings, h_second, h_greatest, h_least, h_period, h_swing, h_gain, h_past, h_go, h_sched, h_i_lim, h_i_gb, h_i_md, h_i_dt, h_i_me, h_i_st, h_i_up, h_i_gl, h_i_sw, h_i_rl, h_i_m0⟩
    · show (f_X6_gain_j1_1 0 wh) = f_L_gain_r wh
      rw [hcd]; unfold f_L_gain_r; rw [if_pos hc]; exact w1_0 hc
    · show (f_L_gain_uo (yl_kp T.1) (yl_ki T.1) (yl_kd T.1) uo wh) (0 : Int32).toNatClampNeg = (f_X6_gain_j2_1 (ym_m_gain M) 0 wh).toInt64
      simp only [f_L_gain_uo, f_X6_gain_j2_1, if_pos hc, if_neg hz]
      rw [ul_eq]
      exact gn_eq (k := 0) h_gain.1 h_gain.2.1 h_gain.2.2.1 rfl (by decide) hc
  · have hz : f_X6_can_j1_1 (f_X6_gain_j1_1 0 wh) = 0 := can_no (by rw [hcd]; exact w1_n hc)
    refine ⟨?_, fun h => absurd h ?_, h_bs, h_a1, h_a2, h_b, h_deadTime, h_load, h_measure, h_before, h_low, h_high, h_setpoint, h_integral, h_guard, h_share, h_mode, h_hand, h_follows, h_hasMaster, h_isStarved, h_held, h_sum, h_lastError, h_lastRate, h_experiment, h_center, h_height, h_band, h_isUp, h_gone, h_risings, h_second, h_greatest, h_least, h_period, h_swing, h_gain, h_past, h_go, h_sched, h_i_lim, h_i_gb, h_i_md, h_i_dt, h_i_me, h_i_st, h_i_up, h_i_gl, h_i_sw, h_i_rl, h_i_m0⟩
    · show (f_X6_gain_j1_1 0 wh) = f_L_gain_r wh
      rw [hcd]; unfold f_L_gain_r; rw [if_neg hc]
    · show ¬ f_L_gain_r wh = 0
      unfold f_L_gain_r; rw [if_neg hc]; exact w1_n hc
set_option maxHeartbeats 1000000 in
theorem rel_gain_1 (hR : Rel T bs M) (wh : Int32) (uo : Nat → Int64) : rm_thrown (um_gain M 1 wh) = lr_gain T.2.1 wh ∧ (lr_gain T.2.1 wh = 0 → lo_gain T.2.1 uo wh (0 : Int32).toNatClampNeg = (rm_gain M 1 wh).toInt64) ∧ Rel (T.1, (lu_gain T.2.1 wh), T.2.2) bs (um_gain M 1 wh) := by
  obtain ⟨h_bs, h_a1, h_a2, h_b, h_deadTime, h_load, h_measure, h_before, h_low, h_high, h_setpoint, h_integral, h_guard, h_share, h_mode, h_hand, h_follows, h_hasMaster, h_isStarved, h_held, h_sum, h_lastError, h_lastRate, h_experiment, h_center, h_height, h_band, h_isUp, h_gone, h_risings, h_second, h_greatest, h_least, h_period, h_swing, h_gain, h_past, h_go, h_sched, h_i_lim, h_i_gb, h_i_md, h_i_dt, h_i_me, h_i_st, h_i_up, h_i_gl, h_i_sw, h_i_rl, h_i_m0⟩ := Rel_iff.mp hR
  have hcd : (f_X6_gain_j1_1 1 wh) = wr1 (f_X5_gain_x wh) := cd_gain il_1
  by_cases hc : (f_X5_gain_x wh) = 0
  · have hz : ¬ f_X6_can_j1_1 (f_X6_gain_j1_1 1 wh) = 0 := can_ok (by rw [hcd]; exact w1_0 hc)
    refine ⟨?_, fun _ => ?_, h_bs, h_a1, h_a2, h_b, h_deadTime, h_load, h_measure, h_before, h_low, h_high, h_setpoint, h_integral, h_guard, h_share, h_mode, h_hand, h_follows, h_hasMaster, h_isStarved, h_held, h_sum, h_lastError, h_lastRate, h_experiment, h_center, h_height, h_band, h_isUp, h_gone, h_risings, h_second, h_greatest, h_least, h_period, h_swing, h_gain, h_past, h_go, h_sched, h_i_lim, h_i_gb, h_i_md, h_i_dt, h_i_me, h_i_st, h_i_up, h_i_gl, h_i_sw, h_i_rl, h_i_m0⟩
    · show (f_X6_gain_j1_1 1 wh) = f_L_gain_r wh
      rw [hcd]; unfold f_L_gain_r; rw [if_pos hc]; exact w1_0 hc
    · show (f_L_gain_uo (yl_kp T.2.1) (yl_ki T.2.1) (yl_kd T.2.1) uo wh) (0 : Int32).toNatClampNeg = (f_X6_gain_j2_1 (ym_m_gain M) 1 wh).toInt64
      simp only [f_L_gain_uo, f_X6_gain_j2_1, if_pos hc, if_neg hz]
      rw [ul_eq]
      exact gn_eq (k := 1) h_gain.2.2.2.1 h_gain.2.2.2.2.1 h_gain.2.2.2.2.2.1 rfl (by decide) hc
  · have hz : f_X6_can_j1_1 (f_X6_gain_j1_1 1 wh) = 0 := can_no (by rw [hcd]; exact w1_n hc)
    refine ⟨?_, fun h => absurd h ?_, h_bs, h_a1, h_a2, h_b, h_deadTime, h_load, h_measure, h_before, h_low, h_high, h_setpoint, h_integral, h_guard, h_share, h_mode, h_hand, h_follows, h_hasMaster, h_isStarved, h_held, h_sum, h_lastError, h_lastRate, h_experiment, h_center, h_height, h_band, h_isUp, h_gone, h_risings, h_second, h_greatest, h_least, h_period, h_swing, h_gain, h_past, h_go, h_sched, h_i_lim, h_i_gb, h_i_md, h_i_dt, h_i_me, h_i_st, h_i_up, h_i_gl, h_i_sw, h_i_rl, h_i_m0⟩
    · show (f_X6_gain_j1_1 1 wh) = f_L_gain_r wh
      rw [hcd]; unfold f_L_gain_r; rw [if_neg hc]
    · show ¬ f_L_gain_r wh = 0
      unfold f_L_gain_r; rw [if_neg hc]; exact w1_n hc
set_option maxHeartbeats 1000000 in
theorem rel_gain_2 (hR : Rel T bs M) (wh : Int32) (uo : Nat → Int64) : rm_thrown (um_gain M 2 wh) = lr_gain T.2.2 wh ∧ (lr_gain T.2.2 wh = 0 → lo_gain T.2.2 uo wh (0 : Int32).toNatClampNeg = (rm_gain M 2 wh).toInt64) ∧ Rel (T.1, T.2.1, (lu_gain T.2.2 wh)) bs (um_gain M 2 wh) := by
  obtain ⟨h_bs, h_a1, h_a2, h_b, h_deadTime, h_load, h_measure, h_before, h_low, h_high, h_setpoint, h_integral, h_guard, h_share, h_mode, h_hand, h_follows, h_hasMaster, h_isStarved, h_held, h_sum, h_lastError, h_lastRate, h_experiment, h_center, h_height, h_band, h_isUp, h_gone, h_risings, h_second, h_greatest, h_least, h_period, h_swing, h_gain, h_past, h_go, h_sched, h_i_lim, h_i_gb, h_i_md, h_i_dt, h_i_me, h_i_st, h_i_up, h_i_gl, h_i_sw, h_i_rl, h_i_m0⟩ := Rel_iff.mp hR
  have hcd : (f_X6_gain_j1_1 2 wh) = wr1 (f_X5_gain_x wh) := cd_gain il_2
  by_cases hc : (f_X5_gain_x wh) = 0
  · have hz : ¬ f_X6_can_j1_1 (f_X6_gain_j1_1 2 wh) = 0 := can_ok (by rw [hcd]; exact w1_0 hc)
    refine ⟨?_, fun _ => ?_, h_bs, h_a1, h_a2, h_b, h_deadTime, h_load, h_measure, h_before, h_low, h_high, h_setpoint, h_integral, h_guard, h_share, h_mode, h_hand, h_follows, h_hasMaster, h_isStarved, h_held, h_sum, h_lastError, h_lastRate, h_experiment, h_center, h_height, h_band, h_isUp, h_gone, h_risings, h_second, h_greatest, h_least, h_period, h_swing, h_gain, h_past, h_go, h_sched, h_i_lim, h_i_gb, h_i_md, h_i_dt, h_i_me, h_i_st, h_i_up, h_i_gl, h_i_sw, h_i_rl, h_i_m0⟩
    · show (f_X6_gain_j1_1 2 wh) = f_L_gain_r wh
      rw [hcd]; unfold f_L_gain_r; rw [if_pos hc]; exact w1_0 hc
    · show (f_L_gain_uo (yl_kp T.2.2) (yl_ki T.2.2) (yl_kd T.2.2) uo wh) (0 : Int32).toNatClampNeg = (f_X6_gain_j2_1 (ym_m_gain M) 2 wh).toInt64
      simp only [f_L_gain_uo, f_X6_gain_j2_1, if_pos hc, if_neg hz]
      rw [ul_eq]
      exact gn_eq (k := 2) h_gain.2.2.2.2.2.2.1 h_gain.2.2.2.2.2.2.2.1 h_gain.2.2.2.2.2.2.2.2 rfl (by decide) hc
  · have hz : f_X6_can_j1_1 (f_X6_gain_j1_1 2 wh) = 0 := can_no (by rw [hcd]; exact w1_n hc)
    refine ⟨?_, fun h => absurd h ?_, h_bs, h_a1, h_a2, h_b, h_deadTime, h_load, h_measure, h_before, h_low, h_high, h_setpoint, h_integral, h_guard, h_share, h_mode, h_hand, h_follows, h_hasMaster, h_isStarved, h_held, h_sum, h_lastError, h_lastRate, h_experiment, h_center, h_height, h_band, h_isUp, h_gone, h_risings, h_second, h_greatest, h_least, h_period, h_swing, h_gain, h_past, h_go, h_sched, h_i_lim, h_i_gb, h_i_md, h_i_dt, h_i_me, h_i_st, h_i_up, h_i_gl, h_i_sw, h_i_rl, h_i_m0⟩
    · show (f_X6_gain_j1_1 2 wh) = f_L_gain_r wh
      rw [hcd]; unfold f_L_gain_r; rw [if_neg hc]
    · show ¬ f_L_gain_r wh = 0
      unfold f_L_gain_r; rw [if_neg hc]; exact w1_n hc
theorem rel_gain (hR : Rel T bs M) (lp : Int32) (wh : Int32) (uo : Nat → Int64) : rm_thrown (um_gain M lp wh) = ofL T lp (fun s => lr_gain s wh) 1 ∧ (ofL T lp (fun s => lr_gain s wh) 1 = 0 → (ofL T lp (fun s => lo_gain s uo wh) uo) (0 : Int32).toNatClampNeg = (rm_gain M lp wh).toInt64) ∧ Rel (onL T lp (fun s => lu_gain s wh)) bs (um_gain M lp wh) := by
  by_cases h0 : lp = 0
  · subst h0
    rw [ofL_0, ofL_0, onL_0]
    exact rel_gain_0 hR wh uo
  by_cases h1 : lp = 1
  · subst h1
    rw [ofL_1, ofL_1, onL_1]
    exact rel_gain_1 hR wh uo
  by_cases h2 : lp = 2
  · subst h2
    rw [ofL_2, ofL_2, onL_2]
    exact rel_gain_2 hR wh uo
  rw [ofL_o T _ _ h0 h1 h2, ofL_o T _ _ h0 h1 h2, onL_o T _ h0 h1 h2]
  have hcd : (f_X6_gain_j1_1 lp wh) = 1 := by simp only [f_X6_gain_j1_1, il_o h0 h1 h2]; rfl
  have hz : f_X6_can_j1_1 (f_X6_gain_j1_1 lp wh) = 0 := can_no (by rw [hcd]; decide)
  obtain ⟨h_bs, h_a1, h_a2, h_b, h_deadTime, h_load, h_measure, h_before, h_low, h_high, h_setpoint, h_integral, h_guard, h_share, h_mode, h_hand, h_follows, h_hasMaster, h_isStarved, h_held, h_sum, h_lastError, h_lastRate, h_experiment, h_center, h_height, h_band, h_isUp, h_gone, h_risings, h_second, h_greatest, h_least, h_period, h_swing, h_gain, h_past, h_go, h_sched, h_i_lim, h_i_gb, h_i_md, h_i_dt, h_i_me, h_i_st, h_i_up, h_i_gl, h_i_sw, h_i_rl, h_i_m0⟩ := Rel_iff.mp hR
  refine ⟨hcd, fun h => absurd h (by decide), h_bs, h_a1, h_a2, h_b, h_deadTime, h_load, h_measure, h_before, h_low, h_high, h_setpoint, h_integral, h_guard, h_share, h_mode, h_hand, h_follows, h_hasMaster, h_isStarved, h_held, h_sum, h_lastError, h_lastRate, h_experiment, h_center, h_height, h_band, h_isUp, h_gone, h_risings, h_second, h_greatest, h_least, h_period, h_swing, h_gain, h_past, h_go, h_sched, h_i_lim, h_i_gb, h_i_md, h_i_dt, h_i_me, h_i_st, h_i_up, h_i_gl, h_i_sw, h_i_rl, h_i_m0⟩
set_option maxHeartbeats 1000000 in
theorem rel_mode_0 (hR : Rel T bs M) (uo : Nat → Int64) : rm_thrown (um_mode M 0 ) = lr_mode T.1  ∧ (lr_mode T.1  = 0 → lo_mode T.1 uo  (0 : Int32).toNatClampNeg = (rm_mode M 0 ).toInt64) ∧ Rel ((lu_mode T.1 ), T.2.1, T.2.2) bs (um_mode M 0 ) := by
  obtain ⟨h_bs, h_a1, h_a2, h_b, h_deadTime, h_load, h_measure, h_before, h_low, h_high, h_setpoint, h_integral, h_guard, h_share, h_mode, h_hand, h_follows, h_hasMaster, h_isStarved, h_held, h_sum, h_lastError, h_lastRate, h_experiment, h_center, h_height, h_band, h_isUp, h_gone, h_risings, h_second, h_greatest, h_least, h_period, h_swing, h_gain, h_past, h_go, h_sched, h_i_lim, h_i_gb, h_i_md, h_i_dt, h_i_me, h_i_st, h_i_up, h_i_gl, h_i_sw, h_i_rl, h_i_m0⟩ := Rel_iff.mp hR
  have hcd : (f_X6_isAsked_j1_1 0) = 0 := by simp only [f_X6_isAsked_j1_1, il_0]; decide
  have hz : ¬ f_X6_can_j1_1 (f_X6_isAsked_j1_1 0) = 0 := can_ok hcd
  refine ⟨?_, fun _ => ?_, h_bs, h_a1, h_a2, h_b, h_deadTime, h_load, h_measure, h_before, h_low, h_high, h_setpoint, h_integral, h_guard, h_share, h_mode, h_hand, h_follows, h_hasMaster, h_isStarved, h_held, h_sum, h_lastError, h_lastRate, h_experiment, h_center, h_height, h_band, h_isUp, h_gone, h_risings, h_second, h_greatest, h_least, h_period, h_swing, h_gain, h_past, h_go, h_sched, h_i_lim, h_i_gb, h_i_md, h_i_dt, h_i_me, h_i_st, h_i_up, h_i_gl, h_i_sw, h_i_rl, h_i_m0⟩
  · exact hcd
  · show (f_L_mode_uo (yl_lmo T.1) uo) (0 : Int32).toNatClampNeg = (f_X6_mode_j1_1 (ym_m_mode M) 0).toInt64
    simp only [f_L_mode_uo, f_X6_mode_j1_1, f_X6_isAsked_r, if_neg hz]
    rw [ul_eq]
    exact congrArg Int32.toInt64 (h_mode.1).symm
set_option maxHeartbeats 1000000 in
theorem rel_mode_1 (hR : Rel T bs M) (uo : Nat → Int64) : rm_thrown (um_mode M 1 ) = lr_mode T.2.1  ∧ (lr_mode T.2.1  = 0 → lo_mode T.2.1 uo  (0 : Int32).toNatClampNeg = (rm_mode M 1 ).toInt64) ∧ Rel (T.1, (lu_mode T.2.1 ), T.2.2) bs (um_mode M 1 ) := by
  obtain ⟨h_bs, h_a1, h_a2, h_b, h_deadTime, h_load, h_measure, h_before, h_low, h_high, h_setpoint, h_integral, h_guard, h_share, h_mode, h_hand, h_follows, h_hasMaster, h_isStarved, h_held, h_sum, h_lastError, h_lastRate, h_experiment, h_center, h_height, h_band, h_isUp, h_gone, h_risings, h_second, h_greatest, h_least, h_period, h_swing, h_gain, h_past, h_go, h_sched, h_i_lim, h_i_gb, h_i_md, h_i_dt, h_i_me, h_i_st, h_i_up, h_i_gl, h_i_sw, h_i_rl, h_i_m0⟩ := Rel_iff.mp hR
  have hcd : (f_X6_isAsked_j1_1 1) = 0 := by simp only [f_X6_isAsked_j1_1, il_1]; decide
  have hz : ¬ f_X6_can_j1_1 (f_X6_isAsked_j1_1 1) = 0 := can_ok hcd
  refine ⟨?_, fun _ => ?_, h_bs, h_a1, h_a2, h_b, h_deadTime, h_load, h_measure, h_before, h_low, h_high, h_setpoint, h_integral, h_guard, h_share, h_mode, h_hand, h_follows, h_hasMaster, h_isStarved, h_held, h_sum, h_lastError, h_lastRate, h_experiment, h_center, h_height, h_band, h_isUp, h_gone, h_risings, h_second, h_greatest, h_least, h_period, h_swing, h_gain, h_past, h_go, h_sched, h_i_lim, h_i_gb, h_i_md, h_i_dt, h_i_me, h_i_st, h_i_up, h_i_gl, h_i_sw, h_i_rl, h_i_m0⟩
  · exact hcd
  · show (f_L_mode_uo (yl_lmo T.2.1) uo) (0 : Int32).toNatClampNeg = (f_X6_mode_j1_1 (ym_m_mode M) 1).toInt64
    simp only [f_L_mode_uo, f_X6_mode_j1_1, f_X6_isAsked_r, if_neg hz]
    rw [ul_eq]
    exact congrArg Int32.toInt64 (h_mode.2.1).symm
set_option maxHeartbeats 1000000 in
theorem rel_mode_2 (hR : Rel T bs M) (uo : Nat → Int64) : rm_thrown (um_mode M 2 ) = lr_mode T.2.2  ∧ (lr_mode T.2.2  = 0 → lo_mode T.2.2 uo  (0 : Int32).toNatClampNeg = (rm_mode M 2 ).toInt64) ∧ Rel (T.1, T.2.1, (lu_mode T.2.2 )) bs (um_mode M 2 ) := by
  obtain ⟨h_bs, h_a1, h_a2, h_b, h_deadTime, h_load, h_measure, h_before, h_low, h_high, h_setpoint, h_integral, h_guard, h_share, h_mode, h_hand, h_follows, h_hasMaster, h_isStarved, h_held, h_sum, h_lastError, h_lastRate, h_experiment, h_center, h_height, h_band, h_isUp, h_gone, h_risings, h_second, h_greatest, h_least, h_period, h_swing, h_gain, h_past, h_go, h_sched, h_i_lim, h_i_gb, h_i_md, h_i_dt, h_i_me, h_i_st, h_i_up, h_i_gl, h_i_sw, h_i_rl, h_i_m0⟩ := Rel_iff.mp hR
  have hcd : (f_X6_isAsked_j1_1 2) = 0 := by simp only [f_X6_isAsked_j1_1, il_2]; decide
  have hz : ¬ f_X6_can_j1_1 (f_X6_isAsked_j1_1 2) = 0 := can_ok hcd
  refine ⟨?_, fun _ => ?_, h_bs, h_a1, h_a2, h_b, h_deadTime, h_load, h_measure, h_before, h_low, h_high, h_setpoint, h_integral, h_guard, h_share, h_mode, h_hand, h_follows, h_hasMaster, h_isStarved, h_held, h_sum, h_lastError, h_lastRate, h_experiment, h_center, h_height, h_band, h_isUp, h_gone, h_risings, h_second, h_greatest, h_least, h_period, h_swing, h_gain, h_past, h_go, h_sched, h_i_lim, h_i_gb, h_i_md, h_i_dt, h_i_me, h_i_st, h_i_up, h_i_gl, h_i_sw, h_i_rl, h_i_m0⟩
  · exact hcd
  · show (f_L_mode_uo (yl_lmo T.2.2) uo) (0 : Int32).toNatClampNeg = (f_X6_mode_j1_1 (ym_m_mode M) 2).toInt64
    simp only [f_L_mode_uo, f_X6_mode_j1_1, f_X6_isAsked_r, if_neg hz]
    rw [ul_eq]
    exact congrArg Int32.toInt64 (h_mode.2.2).symm
theorem rel_mode (hR : Rel T bs M) (lp : Int32) (uo : Nat → Int64) : rm_thrown (um_mode M lp ) = ofL T lp (fun s => lr_mode s ) 1 ∧ (ofL T lp (fun s => lr_mode s ) 1 = 0 → (ofL T lp (fun s => lo_mode s uo ) uo) (0 : Int32).toNatClampNeg = (rm_mode M lp ).toInt64) ∧ Rel (onL T lp (fun s => lu_mode s )) bs (um_mode M lp ) := by
  by_cases h0 : lp = 0
  · subst h0
    rw [ofL_0, ofL_0, onL_0]
    exact rel_mode_0 hR  uo
  by_cases h1 : lp = 1
  · subst h1
    rw [ofL_1, ofL_1, onL_1]
    exact rel_mode_1 hR  uo
  by_cases h2 : lp = 2
  · subst h2
    rw [ofL_2, ofL_2, onL_2]
    exact rel_mode_2 hR  uo
  rw [ofL_o T _ _ h0 h1 h2, ofL_o T _ _ h0 h1 h2, onL_o T _ h0 h1 h2]
  have hcd : (f_X6_isAsked_j1_1 lp) = 1 := by simp only [f_X6_isAsked_j1_1, il_o h0 h1 h2]; rfl
  have hz : f_X6_can_j1_1 (f_X6_isAsked_j1_1 lp) = 0 := can_no (by rw [hcd]; decide)
  obtain ⟨h_bs, h_a1, h_a2, h_b, h_deadTime, h_load, h_measure, h_before, h_low, h_high, h_setpoint, h_integral, h_guard, h_share, h_mode, h_hand, h_follows, h_hasMaster, h_isStarved, h_held, h_sum, h_lastError, h_lastRate, h_experiment, h_center, h_height, h_band, h_isUp, h_gone, h_risings, h_second, h_greatest, h_least, h_period, h_swing, h_gain, h_past, h_go, h_sched, h_i_lim, h_i_gb, h_i_md, h_i_dt, h_i_me, h_i_st, h_i_up, h_i_gl, h_i_sw, h_i_rl, h_i_m0⟩ := Rel_iff.mp hR
  refine ⟨hcd, fun h => absurd h (by decide), h_bs, h_a1, h_a2, h_b, h_deadTime, h_load, h_measure, h_before, h_low, h_high, h_setpoint, h_integral, h_guard, h_share, h_mode, h_hand, h_follows, h_hasMaster, h_isStarved, h_held, h_sum, h_lastError, h_lastRate, h_experiment, h_center, h_height, h_band, h_isUp, h_gone, h_risings, h_second, h_greatest, h_least, h_period, h_swing, h_gain, h_past, h_go, h_sched, h_i_lim, h_i_gb, h_i_md, h_i_dt, h_i_me, h_i_st, h_i_up, h_i_gl, h_i_sw, h_i_rl, h_i_m0⟩
set_option maxHeartbeats 1000000 in
theorem rel_wasStarved_0 (hR : Rel T bs M) (uo : Nat → Int64) : rm_thrown (um_wasStarved M 0 ) = lr_wasStarved T.1  ∧ (lr_wasStarved T.1  = 0 → lo_wasStarved T.1 uo  (0 : Int32).toNatClampNeg = bzl (rm_wasStarved M 0 )) ∧ Rel ((lu_wasStarved T.1 ), T.2.1, T.2.2) bs (um_wasStarved M 0 ) := by
  obtain ⟨h_bs, h_a1, h_a2, h_b, h_deadTime, h_load, h_measure, h_before, h_low, h_high, h_setpoint, h_integral, h_guard, h_share, h_mode, h_hand, h_follows, h_hasMaster, h_isStarved, h_held, h_sum, h_lastError, h_lastRate, h_experiment, h_center, h_height, h_band, h_isUp, h_gone, h_risings, h_second, h_greatest, h_least, h_period, h_swing, h_gain, h_past, h_go, h_sched, h_i_lim, h_i_gb, h_i_md, h_i_dt, h_i_me, h_i_st, h_i_up, h_i_gl, h_i_sw, h_i_rl, h_i_m0⟩ := Rel_iff.mp hR
  have hcd : (f_X6_isAsked_j1_1 0) = 0 := by simp only [f_X6_isAsked_j1_1, il_0]; decide
  have hz : ¬ f_X6_can_j1_1 (f_X6_isAsked_j1_1 0) = 0 := can_ok hcd
  refine ⟨?_, fun _ => ?_, h_bs, h_a1, h_a2, h_b, h_deadTime, h_load, h_measure, h_before, h_low, h_high, h_setpoint, h_integral, h_guard, h_share, h_mode, h_hand, h_follows, h_hasMaster, h_isStarved, h_held, h_sum, h_lastError, h_lastRate, h_experiment, h_center, h_height, h_band, h_isUp, h_gone, h_risings, h_second, h_greatest, h_least, h_period, h_swing, h_gain, h_past, h_go, h_sched, h_i_lim, h_i_gb, h_i_md, h_i_dt, h_i_me, h_i_st, h_i_up, h_i_gl, h_i_sw, h_i_rl, h_i_m0⟩
  · exact hcd
  · show (f_L_wasStarved_uo (yl_lst T.1) uo) (0 : Int32).toNatClampNeg = bzl (f_X6_wasStarved_j1_1 (ym_m_isStarved M) 0)
    simp only [f_L_wasStarved_uo, f_X6_wasStarved_j1_1, f_X6_isAsked_r, if_neg hz]
    rw [ul_eq]
    exact ws_eq (h_isStarved.1)
set_option maxHeartbeats 1000000 in
theorem rel_wasStarved_1 (hR : Rel T bs M) (uo : Nat → Int64) : rm_thrown (um_wasStarved M 1 ) = lr_wasStarved T.2.1  ∧ (lr_wasStarved T.2.1  = 0 → lo_wasStarved T.2.1 uo  (0 : Int32).toNatClampNeg = bzl (rm_wasStarved M 1 )) ∧ Rel (T.1, (lu_wasStarved T.2.1 ), T.2.2) bs (um_wasStarved M 1 ) := by
  obtain ⟨h_bs, h_a1, h_a2, h_b, h_deadTime, h_load, h_measure, h_before, h_low, h_high, h_setpoint, h_integral, h_guard, h_share, h_mode, h_hand, h_follows, h_hasMaster, h_isStarved, h_held, h_sum, h_lastError, h_lastRate, h_experiment, h_center, h_height, h_band, h_isUp, h_gone, h_risings, h_second, h_greatest, h_least, h_period, h_swing, h_gain, h_past, h_go, h_sched, h_i_lim, h_i_gb, h_i_md, h_i_dt, h_i_me, h_i_st, h_i_up, h_i_gl, h_i_sw, h_i_rl, h_i_m0⟩ := Rel_iff.mp hR
  have hcd : (f_X6_isAsked_j1_1 1) = 0 := by simp only [f_X6_isAsked_j1_1, il_1]; decide
  have hz : ¬ f_X6_can_j1_1 (f_X6_isAsked_j1_1 1) = 0 := can_ok hcd
  refine ⟨?_, fun _ => ?_, h_bs, h_a1, h_a2, h_b, h_deadTime, h_load, h_measure, h_before, h_low, h_high, h_setpoint, h_integral, h_guard, h_share, h_mode, h_hand, h_follows, h_hasMaster, h_isStarved, h_held, h_sum, h_lastError, h_lastRate, h_experiment, h_center, h_height, h_band, h_isUp, h_gone, h_risings, h_second, h_greatest, h_least, h_period, h_swing, h_gain, h_past, h_go, h_sched, h_i_lim, h_i_gb, h_i_md, h_i_dt, h_i_me, h_i_st, h_i_up, h_i_gl, h_i_sw, h_i_rl, h_i_m0⟩
  · exact hcd
  · show (f_L_wasStarved_uo (yl_lst T.2.1) uo) (0 : Int32).toNatClampNeg = bzl (f_X6_wasStarved_j1_1 (ym_m_isStarved M) 1)
    simp only [f_L_wasStarved_uo, f_X6_wasStarved_j1_1, f_X6_isAsked_r, if_neg hz]
    rw [ul_eq]
    exact ws_eq (h_isStarved.2.1)
set_option maxHeartbeats 1000000 in
theorem rel_wasStarved_2 (hR : Rel T bs M) (uo : Nat → Int64) : rm_thrown (um_wasStarved M 2 ) = lr_wasStarved T.2.2  ∧ (lr_wasStarved T.2.2  = 0 → lo_wasStarved T.2.2 uo  (0 : Int32).toNatClampNeg = bzl (rm_wasStarved M 2 )) ∧ Rel (T.1, T.2.1, (lu_wasStarved T.2.2 )) bs (um_wasStarved M 2 ) := by
  obtain ⟨h_bs, h_a1, h_a2, h_b, h_deadTime, h_load, h_measure, h_before, h_low, h_high, h_setpoint, h_integral, h_guard, h_share, h_mode, h_hand, h_follows, h_hasMaster, h_isStarved, h_held, h_sum, h_lastError, h_lastRate, h_experiment, h_center, h_height, h_band, h_isUp, h_gone, h_risings, h_second, h_greatest, h_least, h_period, h_swing, h_gain, h_past, h_go, h_sched, h_i_lim, h_i_gb, h_i_md, h_i_dt, h_i_me, h_i_st, h_i_up, h_i_gl, h_i_sw, h_i_rl, h_i_m0⟩ := Rel_iff.mp hR
  have hcd : (f_X6_isAsked_j1_1 2) = 0 := by simp only [f_X6_isAsked_j1_1, il_2]; decide
  have hz : ¬ f_X6_can_j1_1 (f_X6_isAsked_j1_1 2) = 0 := can_ok hcd
  refine ⟨?_, fun _ => ?_, h_bs, h_a1, h_a2, h_b, h_deadTime, h_load, h_measure, h_before, h_low, h_high, h_setpoint, h_integral, h_guard, h_share, h_mode, h_hand, h_follows, h_hasMaster, h_isStarved, h_held, h_sum, h_lastError, h_lastRate, h_experiment, h_center, h_height, h_band, h_isUp, h_gone, h_risings, h_second, h_greatest, h_least, h_period, h_swing, h_gain, h_past, h_go, h_sched, h_i_lim, h_i_gb, h_i_md, h_i_dt, h_i_me, h_i_st, h_i_up, h_i_gl, h_i_sw, h_i_rl, h_i_m0⟩
  · exact hcd
  · show (f_L_wasStarved_uo (yl_lst T.2.2) uo) (0 : Int32).toNatClampNeg = bzl (f_X6_wasStarved_j1_1 (ym_m_isStarved M) 2)
    simp only [f_L_wasStarved_uo, f_X6_wasStarved_j1_1, f_X6_isAsked_r, if_neg hz]
    rw [ul_eq]
    exact ws_eq (h_isStarved.2.2)
theorem rel_wasStarved (hR : Rel T bs M) (lp : Int32) (uo : Nat → Int64) : rm_thrown (um_wasStarved M lp ) = ofL T lp (fun s => lr_wasStarved s ) 1 ∧ (ofL T lp (fun s => lr_wasStarved s ) 1 = 0 → (ofL T lp (fun s => lo_wasStarved s uo ) uo) (0 : Int32).toNatClampNeg = bzl (rm_wasStarved M lp )) ∧ Rel (onL T lp (fun s => lu_wasStarved s )) bs (um_wasStarved M lp ) := by
  by_cases h0 : lp = 0
  · subst h0
    rw [ofL_0, ofL_0, onL_0]
    exact rel_wasStarved_0 hR  uo
  by_cases h1 : lp = 1
  · subst h1
    rw [ofL_1, ofL_1, onL_1]
    exact rel_wasStarved_1 hR  uo
  by_cases h2 : lp = 2
  · subst h2
    rw [ofL_2, ofL_2, onL_2]
    exact rel_wasStarved_2 hR  uo
  rw [ofL_o T _ _ h0 h1 h2, ofL_o T _ _ h0 h1 h2, onL_o T _ h0 h1 h2]
  have hcd : (f_X6_isAsked_j1_1 lp) = 1 := by simp only [f_X6_isAsked_j1_1, il_o h0 h1 h2]; rfl
  have hz : f_X6_can_j1_1 (f_X6_isAsked_j1_1 lp) = 0 := can_no (by rw [hcd]; decide)
  obtain ⟨h_bs, h_a1, h_a2, h_b, h_deadTime, h_load, h_measure, h_before, h_low, h_high, h_setpoint, h_integral, h_guard, h_share, h_mode, h_hand, h_follows, h_hasMaster, h_isStarved, h_held, h_sum, h_lastError, h_lastRate, h_experiment, h_center, h_height, h_band, h_isUp, h_gone, h_risings, h_second, h_greatest, h_least, h_period, h_swing, h_gain, h_past, h_go, h_sched, h_i_lim, h_i_gb, h_i_md, h_i_dt, h_i_me, h_i_st, h_i_up, h_i_gl, h_i_sw, h_i_rl, h_i_m0⟩ := Rel_iff.mp hR
  refine ⟨hcd, fun h => absurd h (by decide), h_bs, h_a1, h_a2, h_b, h_deadTime, h_load, h_measure, h_before, h_low, h_high, h_setpoint, h_integral, h_guard, h_share, h_mode, h_hand, h_follows, h_hasMaster, h_isStarved, h_held, h_sum, h_lastError, h_lastRate, h_experiment, h_center, h_height, h_band, h_isUp, h_gone, h_risings, h_second, h_greatest, h_least, h_period, h_swing, h_gain, h_past, h_go, h_sched, h_i_lim, h_i_gb, h_i_md, h_i_dt, h_i_me, h_i_st, h_i_up, h_i_gl, h_i_sw, h_i_rl, h_i_m0⟩
set_option maxHeartbeats 1000000 in
theorem rel_held_0 (hR : Rel T bs M) (uo : Nat → Int64) : rm_thrown (um_held M 0 ) = lr_held T.1  ∧ (lr_held T.1  = 0 → lo_held T.1 uo  (0 : Int32).toNatClampNeg = (rm_held M 0 ).toInt64) ∧ Rel ((lu_held T.1 ), T.2.1, T.2.2) bs (um_held M 0 ) := by
  obtain ⟨h_bs, h_a1, h_a2, h_b, h_deadTime, h_load, h_measure, h_before, h_low, h_high, h_setpoint, h_integral, h_guard, h_share, h_mode, h_hand, h_follows, h_hasMaster, h_isStarved, h_held, h_sum, h_lastError, h_lastRate, h_experiment, h_center, h_height, h_band, h_isUp, h_gone, h_risings, h_second, h_greatest, h_least, h_period, h_swing, h_gain, h_past, h_go, h_sched, h_i_lim, h_i_gb, h_i_md, h_i_dt, h_i_me, h_i_st, h_i_up, h_i_gl, h_i_sw, h_i_rl, h_i_m0⟩ := Rel_iff.mp hR
  have hcd : (f_X6_isAsked_j1_1 0) = 0 := by simp only [f_X6_isAsked_j1_1, il_0]; decide
  have hz : ¬ f_X6_can_j1_1 (f_X6_isAsked_j1_1 0) = 0 := can_ok hcd
  refine ⟨?_, fun _ => ?_, h_bs, h_a1, h_a2, h_b, h_deadTime, h_load, h_measure, h_before, h_low, h_high, h_setpoint, h_integral, h_guard, h_share, h_mode, h_hand, h_follows, h_hasMaster, h_isStarved, h_held, h_sum, h_lastError, h_lastRate, h_experiment, h_center, h_height, h_band, h_isUp, h_gone, h_risings, h_second, h_greatest, h_least, h_period, h_swing, h_gain, h_past, h_go, h_sched, h_i_lim, h_i_gb, h_i_md, h_i_dt, h_i_me, h_i_st, h_i_up, h_i_gl, h_i_sw, h_i_rl, h_i_m0⟩
  · exact hcd
  · show (f_L_held_uo (yl_khe T.1) uo) (0 : Int32).toNatClampNeg = (f_X6_held_j1_1 (ym_m_held M) 0).toInt64
    simp only [f_L_held_uo, f_X6_held_j1_1, f_X6_isAsked_r, if_neg hz]
    rw [ul_eq]
    exact congrArg Int32.toInt64 (h_held.1).symm
set_option maxHeartbeats 1000000 in
theorem rel_held_1 (hR : Rel T bs M) (uo : Nat → Int64) : rm_thrown (um_held M 1 ) = lr_held T.2.1  ∧ (lr_held T.2.1  = 0 → lo_held T.2.1 uo  (0 : Int32).toNatClampNeg = (rm_held M 1 ).toInt64) ∧ Rel (T.1, (lu_held T.2.1 ), T.2.2) bs (um_held M 1 ) := by
  obtain ⟨h_bs, h_a1, h_a2, h_b, h_deadTime, h_load, h_measure, h_before, h_low, h_high, h_setpoint, h_integral, h_guard, h_share, h_mode, h_hand, h_follows, h_hasMaster, h_isStarved, h_held, h_sum, h_lastError, h_lastRate, h_experiment, h_center, h_height, h_band, h_isUp, h_gone, h_risings, h_second, h_greatest, h_least, h_period, h_swing, h_gain, h_past, h_go, h_sched, h_i_lim, h_i_gb, h_i_md, h_i_dt, h_i_me, h_i_st, h_i_up, h_i_gl, h_i_sw, h_i_rl, h_i_m0⟩ := Rel_iff.mp hR
  have hcd : (f_X6_isAsked_j1_1 1) = 0 := by simp only [f_X6_isAsked_j1_1, il_1]; decide
  have hz : ¬ f_X6_can_j1_1 (f_X6_isAsked_j1_1 1) = 0 := can_ok hcd
  refine ⟨?_, fun _ => ?_, h_bs, h_a1, h_a2, h_b, h_deadTime, h_load, h_measure, h_before, h_low, h_high, h_setpoint, h_integral, h_guard, h_share, h_mode, h_hand, h_follows, h_hasMaster, h_isStarved, h_held, h_sum, h_lastError, h_lastRate, h_experiment, h_center, h_height, h_band, h_isUp, h_gone, h_risings, h_second, h_greatest, h_least, h_period, h_swing, h_gain, h_past, h_go, h_sched, h_i_lim, h_i_gb, h_i_md, h_i_dt, h_i_me, h_i_st, h_i_up, h_i_gl, h_i_sw, h_i_rl, h_i_m0⟩
  · exact hcd
  · show (f_L_held_uo (yl_khe T.2.1) uo) (0 : Int32).toNatClampNeg = (f_X6_held_j1_1 (ym_m_held M) 1).toInt64
    simp only [f_L_held_uo, f_X6_held_j1_1, f_X6_isAsked_r, if_neg hz]
    rw [ul_eq]
    exact congrArg Int32.toInt64 (h_held.2.1).symm
set_option maxHeartbeats 1000000 in
theorem rel_held_2 (hR : Rel T bs M) (uo : Nat → Int64) : rm_thrown (um_held M 2 ) = lr_held T.2.2  ∧ (lr_held T.2.2  = 0 → lo_held T.2.2 uo  (0 : Int32).toNatClampNeg = (rm_held M 2 ).toInt64) ∧ Rel (T.1, T.2.1, (lu_held T.2.2 )) bs (um_held M 2 ) := by
  obtain ⟨h_bs, h_a1, h_a2, h_b, h_deadTime, h_load, h_measure, h_before, h_low, h_high, h_setpoint, h_integral, h_guard, h_share, h_mode, h_hand, h_follows, h_hasMaster, h_isStarved, h_held, h_sum, h_lastError, h_lastRate, h_experiment, h_center, h_height, h_band, h_isUp, h_gone, h_risings, h_second, h_greatest, h_least, h_period, h_swing, h_gain, h_past, h_go, h_sched, h_i_lim, h_i_gb, h_i_md, h_i_dt, h_i_me, h_i_st, h_i_up, h_i_gl, h_i_sw, h_i_rl, h_i_m0⟩ := Rel_iff.mp hR
  have hcd : (f_X6_isAsked_j1_1 2) = 0 := by simp only [f_X6_isAsked_j1_1, il_2]; decide
  have hz : ¬ f_X6_can_j1_1 (f_X6_isAsked_j1_1 2) = 0 := can_ok hcd
  refine ⟨?_, fun _ => ?_, h_bs, h_a1, h_a2, h_b, h_deadTime, h_load, h_measure, h_before, h_low, h_high, h_setpoint, h_integral, h_guard, h_share, h_mode, h_hand, h_follows, h_hasMaster, h_isStarved, h_held, h_sum, h_lastError, h_lastRate, h_experiment, h_center, h_height, h_band, h_isUp, h_gone, h_risings, h_second, h_greatest, h_least, h_period, h_swing, h_gain, h_past, h_go, h_sched, h_i_lim, h_i_gb, h_i_md, h_i_dt, h_i_me, h_i_st, h_i_up, h_i_gl, h_i_sw, h_i_rl, h_i_m0⟩
  · exact hcd
  · show (f_L_held_uo (yl_khe T.2.2) uo) (0 : Int32).toNatClampNeg = (f_X6_held_j1_1 (ym_m_held M) 2).toInt64
    simp only [f_L_held_uo, f_X6_held_j1_1, f_X6_isAsked_r, if_neg hz]
    rw [ul_eq]
    exact congrArg Int32.toInt64 (h_held.2.2).symm
theorem rel_held (hR : Rel T bs M) (lp : Int32) (uo : Nat → Int64) : rm_thrown (um_held M lp ) = ofL T lp (fun s => lr_held s ) 1 ∧ (ofL T lp (fun s => lr_held s ) 1 = 0 → (ofL T lp (fun s => lo_held s uo ) uo) (0 : Int32).toNatClampNeg = (rm_held M lp ).toInt64) ∧ Rel (onL T lp (fun s => lu_held s )) bs (um_held M lp ) := by
  by_cases h0 : lp = 0
  · subst h0
    rw [ofL_0, ofL_0, onL_0]
    exact rel_held_0 hR  uo
  by_cases h1 : lp = 1
  · subst h1
    rw [ofL_1, ofL_1, onL_1]
    exact rel_held_1 hR  uo
  by_cases h2 : lp = 2
  · subst h2
    rw [ofL_2, ofL_2, onL_2]
    exact rel_held_2 hR  uo
  rw [ofL_o T _ _ h0 h1 h2, ofL_o T _ _ h0 h1 h2, onL_o T _ h0 h1 h2]
  have hcd : (f_X6_isAsked_j1_1 lp) = 1 := by simp only [f_X6_isAsked_j1_1, il_o h0 h1 h2]; rfl
  have hz : f_X6_can_j1_1 (f_X6_isAsked_j1_1 lp) = 0 := can_no (by rw [hcd]; decide)
  obtain ⟨h_bs, h_a1, h_a2, h_b, h_deadTime, h_load, h_measure, h_before, h_low, h_high, h_setpoint, h_integral, h_guard, h_share, h_mode, h_hand, h_follows, h_hasMaster, h_isStarved, h_held, h_sum, h_lastError, h_lastRate, h_experiment, h_center, h_height, h_band, h_isUp, h_gone, h_risings, h_second, h_greatest, h_least, h_period, h_swing, h_gain, h_past, h_go, h_sched, h_i_lim, h_i_gb, h_i_md, h_i_dt, h_i_me, h_i_st, h_i_up, h_i_gl, h_i_sw, h_i_rl, h_i_m0⟩ := Rel_iff.mp hR
  refine ⟨hcd, fun h => absurd h (by decide), h_bs, h_a1, h_a2, h_b, h_deadTime, h_load, h_measure, h_before, h_low, h_high, h_setpoint, h_integral, h_guard, h_share, h_mode, h_hand, h_follows, h_hasMaster, h_isStarved, h_held, h_sum, h_lastError, h_lastRate, h_experiment, h_center, h_height, h_band, h_isUp, h_gone, h_risings, h_second, h_greatest, h_least, h_period, h_swing, h_gain, h_past, h_go, h_sched, h_i_lim, h_i_gb, h_i_md, h_i_dt, h_i_me, h_i_st, h_i_up, h_i_gl, h_i_sw, h_i_rl, h_i_m0⟩
set_option maxHeartbeats 1000000 in
theorem rel_startRelay_0 (hR : Rel T bs M) (hev : Int32) (bav : Int32) : rm_thrown (um_startRelay M 0 hev bav) = lr_startRelay T.1 hev bav ∧ Rel ((lu_startRelay T.1 hev bav), T.2.1, T.2.2) bs (um_startRelay M 0 hev bav) := by
  obtain ⟨h_bs, h_a1, h_a2, h_b, h_deadTime, h_load, h_measure, h_before, h_low, h_high, h_setpoint, h_integral, h_guard, h_share, h_mode, h_hand, h_follows, h_hasMaster, h_isStarved, h_held, h_sum, h_lastError, h_lastRate, h_experiment, h_center, h_height, h_band, h_isUp, h_gone, h_risings, h_second, h_greatest, h_least, h_period, h_swing, h_gain, h_past, h_go, h_sched, h_i_lim, h_i_gb, h_i_md, h_i_dt, h_i_me, h_i_st, h_i_up, h_i_gl, h_i_sw, h_i_rl, h_i_m0⟩ := Rel_iff.mp hR
  have hcd : (f_X6_startRelay_j1_1 (ym_m_mode M) 0 hev bav) = wr123 (f_X5_startRelay_x (yl_lmo T.1) hev bav) := cd_startRelay il_0 (h_mode.1)
  by_cases hc : (f_X5_startRelay_x (yl_lmo T.1) hev bav) = 0
  · have hz : ¬ f_X6_can_j1_1 (f_X6_startRelay_j1_1 (ym_m_mode M) 0 hev bav) = 0 := can_ok (by rw [hcd]; exact w123_0 hc)
    refine ⟨?_, h_bs, h_a1, h_a2, h_b, h_deadTime, h_load, h_measure, h_before, h_low, h_high, h_setpoint, h_integral, h_guard, h_share, ?_, h_hand, h_follows, h_hasMaster, h_isStarved, h_held, h_sum, h_lastError, h_lastRate, ?_, ?_, ?_, ?_, ?_, ?_, ?_, h_second, h_greatest, h_least, h_period, h_swing, h_gain, h_past, ?_, h_sched, h_i_lim, h_i_gb, ?_, h_i_dt, h_i_me, h_i_st, ?_, h_i_gl, ?_, ?_, ?_⟩
    · show (f_X6_startRelay_j1_1 (ym_m_mode M) 0 hev bav) = f_L_startRelay_r (yl_lmo T.1) hev bav
      rw [hcd]; unfold f_L_startRelay_r; rw [if_pos hc]; exact w123_0 hc
    · show e3 (f_X6_startRelay_j2_1 (ym_m_mode M) 0 hev bav) (f_L_startRelay_lmo (yl_lmo T.1) hev bav) (yl_lmo T.2.1) (yl_lmo T.2.2)
      simp only [f_L_startRelay_lmo, f_X6_startRelay_j2_1, if_pos hc, if_neg hz]
      exact ⟨(u_eq _ _ _), ((u_ne _ _ (by decide)).trans h_mode.2.1), ((u_ne _ _ (by decide)).trans h_mode.2.2)⟩
    · show e3 (f_X6_startRelay_j2_2 (ym_m_mode M) (ym_m_experiment M) 0 hev bav) (f_L_startRelay_rpr (yl_lmo T.1) (yl_rpr T.1) hev bav) (yl_rpr T.2.1) (yl_rpr T.2.2)
      simp only [f_L_startRelay_rpr, f_X6_startRelay_j2_2, if_pos hc, if_neg hz]
      exact ⟨(u_eq _ _ _), ((u_ne _ _ (by decide)).trans h_experiment.2.1), ((u_ne _ _ (by decide)).trans h_experiment.2.2)⟩
    · show e3 (f_X6_startRelay_j2_3 (ym_m_past M) (ym_m_mode M) (ym_m_center M) 0 hev bav) (f_L_startRelay_rce (yl_lmo T.1) (yl_lou T.1) (yl_rce T.1) hev bav) (yl_rce T.2.1) (yl_rce T.2.2)
      simp only [f_L_startRelay_rce, f_X6_startRelay_j2_3, if_pos hc, if_neg hz]
      rw [show f_X6_latest_r (ym_m_past M) 0 = (yl_lou T.1) from (rp_out (h_past.1)).symm]
      exact ⟨(ul_eq _ _ _), ((ul_ne _ _ (by decide)).trans h_center.2.1), ((ul_ne _ _ (by decide)).trans h_center.2.2)⟩
    · show e3 (f_X6_startRelay_j2_4 (ym_m_mode M) (ym_m_height M) 0 hev bav) (f_L_startRelay_rhe (yl_lmo T.1) (yl_rhe T.1) hev bav) (yl_rhe T.2.1) (yl_rhe T.2.2)
      simp only [f_L_startRelay_rhe, f_X6_startRelay_j2_4, if_pos hc, if_neg hz]
      exact ⟨(u_eq _ _ _), ((u_ne _ _ (by decide)).trans h_height.2.1), ((u_ne _ _ (by decide)).trans h_height.2.2)⟩
    · show e3 (f_X6_startRelay_j2_5 (ym_m_mode M) (ym_m_band M) 0 hev bav) (f_L_startRelay_rba (yl_lmo T.1) (yl_rba T.1) hev bav) (yl_rba T.2.1) (yl_rba T.2.2)
      simp only [f_L_startRelay_rba, f_X6_startRelay_j2_5, if_pos hc, if_neg hz]
      exact ⟨(u_eq _ _ _), ((u_ne _ _ (by decide)).trans h_band.2.1), ((u_ne _ _ (by decide)).trans h_band.2.2)⟩
    · show e3 (f_X6_startRelay_j2_6 (ym_m_mode M) (ym_m_isUp M) 0 hev bav) (f_L_startRelay_rup (yl_lmo T.1) (yl_rup T.1) hev bav) (yl_rup T.2.1) (yl_rup T.2.2)
      simp only [f_L_startRelay_rup, f_X6_startRelay_j2_6, if_pos hc, if_neg hz]
      exact ⟨(u_eq _ _ _), ((u_ne _ _ (by decide)).trans h_isUp.2.1), ((u_ne _ _ (by decide)).trans h_isUp.2.2)⟩
    · show e3 (f_X6_startRelay_j2_7 (ym_m_mode M) (ym_m_gone M) 0 hev bav) (f_L_startRelay_rsa (yl_lmo T.1) (yl_rsa T.1) hev bav) (yl_rsa T.2.1) (yl_rsa T.2.2)
      simp only [f_L_startRelay_rsa, f_X6_startRelay_j2_7, if_pos hc, if_neg hz]
      exact ⟨(u_eq _ _ _), ((u_ne _ _ (by decide)).trans h_gone.2.1), ((u_ne _ _ (by decide)).trans h_gone.2.2)⟩
    · show e3 (f_X6_startRelay_j2_8 (ym_m_mode M) (ym_m_risings M) 0 hev bav) (f_L_startRelay_rri (yl_lmo T.1) (yl_rri T.1) hev bav) (yl_rri T.2.1) (yl_rri T.2.2)
      simp only [f_L_startRelay_rri, f_X6_startRelay_j2_8, if_pos hc, if_neg hz]
      exact ⟨(u_eq _ _ _), ((u_ne _ _ (by decide)).trans h_risings.2.1), ((u_ne _ _ (by decide)).trans h_risings.2.2)⟩
    · show (Rgo (f_L_startRelay_lmo (yl_lmo T.1) hev bav) (yl_kgo T.1) ((ym_m_goesOn M) 0)) ∧ (Rgo (yl_lmo T.2.1) (yl_kgo T.2.1) ((ym_m_goesOn M) 1)) ∧ (Rgo (yl_lmo T.2.2) (yl_kgo T.2.2) ((ym_m_goesOn M) 2))
      simp only [f_L_startRelay_lmo, if_pos hc]
      exact ⟨fun h => by rcases h with h | h <;> exact absurd h (by decide), h_go.2.1, h_go.2.2⟩
    · show (Imd (f_L_startRelay_lmo (yl_lmo T.1) hev bav)) ∧ (Imd (yl_lmo T.2.1)) ∧ (Imd (yl_lmo T.2.2))
      simp only [f_L_startRelay_lmo, if_pos hc]
      exact ⟨Or.inr (Or.inr (Or.inr rfl)), h_i_md.2.1, h_i_md.2.2⟩
    · show (Ist (f_L_startRelay_rup (yl_lmo T.1) (yl_rup T.1) hev bav)) ∧ (Ist (yl_rup T.2.1)) ∧ (Ist (yl_rup T.2.2))
      simp only [f_L_startRelay_rup, if_pos hc]
      exact ⟨Or.inr rfl, h_i_up.2.1, h_i_up.2.2⟩
    · show (Isw (yl_rsw T.1) (yl_rpe T.1) (f_L_startRelay_rhe (yl_lmo T.1) (yl_rhe T.1) hev bav)) ∧ (Isw (yl_rsw T.2.1) (yl_rpe T.2.1) (yl_rhe T.2.1)) ∧ (Isw (yl_rsw T.2.2) (yl_rpe T.2.2) (yl_rhe T.2.2))
      simp only [f_L_startRelay_rhe, if_pos hc]
      exact ⟨⟨(h_i_sw.1).1, (h_i_sw.1).2.1, (h_i_sw.1).2.2.1, (sr_ok hc).1, (sr_ok hc).2, (h_i_sw.1).2.2.2.2.2⟩, h_i_sw.2.1, h_i_sw.2.2⟩
    · show (Irl (f_L_startRelay_lmo (yl_lmo T.1) hev bav) (f_L_startRelay_rpr (yl_lmo T.1) (yl_rpr T.1) hev bav) (f_L_startRelay_rsa (yl_lmo T.1) (yl_rsa T.1) hev bav) (f_L_startRelay_rri (yl_lmo T.1) (yl_rri T.1) hev bav) (yl_rse T.1)) ∧ (Irl (yl_lmo T.2.1) (yl_rpr T.2.1) (yl_rsa T.2.1) (yl_rri T.2.1) (yl_rse T.2.1)) ∧ (Irl (yl_lmo T.2.2) (yl_rpr T.2.2) (yl_rsa T.2.2) (yl_rri T.2.2) (yl_rse T.2.2))
      simp only [f_L_startRelay_lmo, f_L_startRelay_rpr, f_L_startRelay_rsa, f_L_startRelay_rri, if_pos hc]
      exact ⟨fun _ => ⟨rfl, by decide, by decide, by decide, by decide, fun q => absurd q (by decide)⟩, h_i_rl.2.1, h_i_rl.2.2⟩
    · show Im0 (f_L_startRelay_lmo (yl_lmo T.1) hev bav) (yl_lma T.1)
      simp only [f_L_startRelay_lmo, if_pos hc]
      exact ⟨by decide, h_i_m0.2⟩
  · have hz : f_X6_can_j1_1 (f_X6_startRelay_j1_1 (ym_m_mode M) 0 hev bav) = 0 := can_no (by rw [hcd]; exact w123_n hc)
    refine ⟨?_, h_bs, h_a1, h_a2, h_b, h_deadTime, h_load, h_measure, h_before, h_low, h_high, h_setpoint, h_integral, h_guard, h_share, ?_, h_hand, h_follows, h_hasMaster, h_isStarved, h_held, h_sum, h_lastError, h_lastRate, ?_, ?_, ?_, ?_, ?_, ?_, ?_, h_second, h_greatest, h_least, h_period, h_swing, h_gain, h_past, ?_, h_sched, h_i_lim, h_i_gb, ?_, h_i_dt, h_i_me, h_i_st, ?_, h_i_gl, ?_, ?_, ?_⟩
    · show (f_X6_startRelay_j1_1 (ym_m_mode M) 0 hev bav) = f_L_startRelay_r (yl_lmo T.1) hev bav
      rw [hcd]; unfold f_L_startRelay_r; rw [if_neg hc]
    · show e3 (f_X6_startRelay_j2_1 (ym_m_mode M) 0 hev bav) (f_L_startRelay_lmo (yl_lmo T.1) hev bav) (yl_lmo T.2.1) (yl_lmo T.2.2)
      simp only [f_L_startRelay_lmo, f_X6_startRelay_j2_1, if_neg hc, if_pos hz]
      exact h_mode
    · show e3 (f_X6_startRelay_j2_2 (ym_m_mode M) (ym_m_experiment M) 0 hev bav) (f_L_startRelay_rpr (yl_lmo T.1) (yl_rpr T.1) hev bav) (yl_rpr T.2.1) (yl_rpr T.2.2)
      simp only [f_L_startRelay_rpr, f_X6_startRelay_j2_2, if_neg hc, if_pos hz]
      exact h_experiment
    · show e3 (f_X6_startRelay_j2_3 (ym_m_past M) (ym_m_mode M) (ym_m_center M) 0 hev bav) (f_L_startRelay_rce (yl_lmo T.1) (yl_lou T.1) (yl_rce T.1) hev bav) (yl_rce T.2.1) (yl_rce T.2.2)
      simp only [f_L_startRelay_rce, f_X6_startRelay_j2_3, if_neg hc, if_pos hz]
      exact h_center
    · show e3 (f_X6_startRelay_j2_4 (ym_m_mode M) (ym_m_height M) 0 hev bav) (f_L_startRelay_rhe (yl_lmo T.1) (yl_rhe T.1) hev bav) (yl_rhe T.2.1) (yl_rhe T.2.2)
      simp only [f_L_startRelay_rhe, f_X6_startRelay_j2_4, if_neg hc, if_pos hz]
      exact h_height
    · show e3 (f_X6_startRelay_j2_5 (ym_m_mode M) (ym_m_band M) 0 hev bav) (f_L_startRelay_rba (yl_lmo T.1) (yl_rba T.1) hev bav) (yl_rba T.2.1) (yl_rba T.2.2)
      simp only [f_L_startRelay_rba, f_X6_startRelay_j2_5, if_neg hc, if_pos hz]
      exact h_band
    · show e3 (f_X6_startRelay_j2_6 (ym_m_mode M) (ym_m_isUp M) 0 hev bav) (f_L_startRelay_rup (yl_lmo T.1) (yl_rup T.1) hev bav) (yl_rup T.2.1) (yl_rup T.2.2)
      simp only [f_L_startRelay_rup, f_X6_startRelay_j2_6, if_neg hc, if_pos hz]
      exact h_isUp
    · show e3 (f_X6_startRelay_j2_7 (ym_m_mode M) (ym_m_gone M) 0 hev bav) (f_L_startRelay_rsa (yl_lmo T.1) (yl_rsa T.1) hev bav) (yl_rsa T.2.1) (yl_rsa T.2.2)
      simp only [f_L_startRelay_rsa, f_X6_startRelay_j2_7, if_neg hc, if_pos hz]
      exact h_gone
    · show e3 (f_X6_startRelay_j2_8 (ym_m_mode M) (ym_m_risings M) 0 hev bav) (f_L_startRelay_rri (yl_lmo T.1) (yl_rri T.1) hev bav) (yl_rri T.2.1) (yl_rri T.2.2)
      simp only [f_L_startRelay_rri, f_X6_startRelay_j2_8, if_neg hc, if_pos hz]
      exact h_risings
    · show (Rgo (f_L_startRelay_lmo (yl_lmo T.1) hev bav) (yl_kgo T.1) ((ym_m_goesOn M) 0)) ∧ (Rgo (yl_lmo T.2.1) (yl_kgo T.2.1) ((ym_m_goesOn M) 1)) ∧ (Rgo (yl_lmo T.2.2) (yl_kgo T.2.2) ((ym_m_goesOn M) 2))
      simp only [f_L_startRelay_lmo, if_neg hc]
      exact h_go
    · show (Imd (f_L_startRelay_lmo (yl_lmo T.1) hev bav)) ∧ (Imd (yl_lmo T.2.1)) ∧ (Imd (yl_lmo T.2.2))
      simp only [f_L_startRelay_lmo, if_neg hc]
      exact h_i_md
    · show (Ist (f_L_startRelay_rup (yl_lmo T.1) (yl_rup T.1) hev bav)) ∧ (Ist (yl_rup T.2.1)) ∧ (Ist (yl_rup T.2.2))
      simp only [f_L_startRelay_rup, if_neg hc]
      exact h_i_up
    · show (Isw (yl_rsw T.1) (yl_rpe T.1) (f_L_startRelay_rhe (yl_lmo T.1) (yl_rhe T.1) hev bav)) ∧ (Isw (yl_rsw T.2.1) (yl_rpe T.2.1) (yl_rhe T.2.1)) ∧ (Isw (yl_rsw T.2.2) (yl_rpe T.2.2) (yl_rhe T.2.2))
      simp only [f_L_startRelay_rhe, if_neg hc]
      exact h_i_sw
    · show (Irl (f_L_startRelay_lmo (yl_lmo T.1) hev bav) (f_L_startRelay_rpr (yl_lmo T.1) (yl_rpr T.1) hev bav) (f_L_startRelay_rsa (yl_lmo T.1) (yl_rsa T.1) hev bav) (f_L_startRelay_rri (yl_lmo T.1) (yl_rri T.1) hev bav) (yl_rse T.1)) ∧ (Irl (yl_lmo T.2.1) (yl_rpr T.2.1) (yl_rsa T.2.1) (yl_rri T.2.1) (yl_rse T.2.1)) ∧ (Irl (yl_lmo T.2.2) (yl_rpr T.2.2) (yl_rsa T.2.2) (yl_rri T.2.2) (yl_rse T.2.2))
      simp only [f_L_startRelay_lmo, f_L_startRelay_rpr, f_L_startRelay_rsa, f_L_startRelay_rri, if_neg hc]
      exact h_i_rl
    · show Im0 (f_L_startRelay_lmo (yl_lmo T.1) hev bav) (yl_lma T.1)
      simp only [f_L_startRelay_lmo, if_neg hc]
      exact h_i_m0
set_option maxHeartbeats 1000000 in
theorem rel_startRelay_1 (hR : Rel T bs M) (hev : Int32) (bav : Int32) : rm_thrown (um_startRelay M 1 hev bav) = lr_startRelay T.2.1 hev bav ∧ Rel (T.1, (lu_startRelay T.2.1 hev bav), T.2.2) bs (um_startRelay M 1 hev bav) := by
  obtain ⟨h_bs, h_a1, h_a2, h_b, h_deadTime, h_load, h_measure, h_before, h_low, h_high, h_setpoint, h_integral, h_guard, h_share, h_mode, h_hand, h_follows, h_hasMaster, h_isStarved, h_held, h_sum, h_lastError, h_lastRate, h_experiment, h_center, h_height, h_band, h_isUp, h_gone, h_risings, h_second, h_greatest, h_least, h_period, h_swing, h_gain, h_past, h_go, h_sched, h_i_lim, h_i_gb, h_i_md, h_i_dt, h_i_me, h_i_st, h_i_up, h_i_gl, h_i_sw, h_i_rl, h_i_m0⟩ := Rel_iff.mp hR
  have hcd : (f_X6_startRelay_j1_1 (ym_m_mode M) 1 hev bav) = wr123 (f_X5_startRelay_x (yl_lmo T.2.1) hev bav) := cd_startRelay il_1 (h_mode.2.1)
  by_cases hc : (f_X5_startRelay_x (yl_lmo T.2.1) hev bav) = 0
  · have hz : ¬ f_X6_can_j1_1 (f_X6_startRelay_j1_1 (ym_m_mode M) 1 hev bav) = 0 := can_ok (by rw [hcd]; exact w123_0 hc)
    refine ⟨?_, h_bs, h_a1, h_a2, h_b, h_deadTime, h_load, h_measure, h_before, h_low, h_high, h_setpoint, h_integral, h_guard, h_share, ?_, h_hand, h_follows, h_hasMaster, h_isStarved, h_held, h_sum, h_lastError, h_lastRate, ?_, ?_, ?_, ?_, ?_, ?_, ?_, h_second, h_greatest, h_least, h_period, h_swing, h_gain, h_past, ?_, h_sched, h_i_lim, h_i_gb, ?_, h_i_dt, h_i_me, h_i_st, ?_, h_i_gl, ?_, ?_, h_i_m0⟩
    · show (f_X6_startRelay_j1_1 (ym_m_mode M) 1 hev bav) = f_L_startRelay_r (yl_lmo T.2.1) hev bav
      rw [hcd]; unfold f_L_startRelay_r; rw [if_pos hc]; exact w123_0 hc
    · show e3 (f_X6_startRelay_j2_1 (ym_m_mode M) 1 hev bav) (yl_lmo T.1) (f_L_startRelay_lmo (yl_lmo T.2.1) hev bav) (yl_lmo T.2.2)
      simp only [f_L_startRelay_lmo, f_X6_startRelay_j2_1, if_pos hc, if_neg hz]
      exact ⟨((u_ne _ _ (by decide)).trans h_mode.1), (u_eq _ _ _), ((u_ne _ _ (by decide)).trans h_mode.2.2)⟩
    · show e3 (f_X6_startRelay_j2_2 (ym_m_mode M) (ym_m_experiment M) 1 hev bav) (yl_rpr T.1) (f_L_startRelay_rpr (yl_lmo T.2.1) (yl_rpr T.2.1) hev bav) (yl_rpr T.2.2)
      simp only [f_L_startRelay_rpr, f_X6_startRelay_j2_2, if_pos hc, if_neg hz]
      exact ⟨((u_ne _ _ (by decide)).trans h_experiment.1), (u_eq _ _ _), ((u_ne _ _ (by decide)).trans h_experiment.2.2)⟩
    · show e3 (f_X6_startRelay_j2_3 (ym_m_past M) (ym_m_mode M) (ym_m_center M) 1 hev bav) (yl_rce T.1) (f_L_startRelay_rce (yl_lmo T.2.1) (yl_lou T.2.1) (yl_rce T.2.1) hev bav) (yl_rce T.2.2)
      simp only [f_L_startRelay_rce, f_X6_startRelay_j2_3, if_pos hc, if_neg hz]
      rw [show f_X6_latest_r (ym_m_past M) 1 = (yl_lou T.2.1) from (rp_out (h_past.2.1)).symm]
      exact ⟨((ul_ne _ _ (by decide)).trans h_center.1), (ul_eq _ _ _), ((ul_ne _ _ (by decide)).trans h_center.2.2)⟩
    · show e3 (f_X6_startRelay_j2_4 (ym_m_mode M) (ym_m_height M) 1 hev bav) (yl_rhe T.1) (f_L_startRelay_rhe (yl_lmo T.2.1) (yl_rhe T.2.1) hev bav) (yl_rhe T.2.2)
      simp only [f_L_startRelay_rhe, f_X6_startRelay_j2_4, if_pos hc, if_neg hz]
      exact ⟨((u_ne _ _ (by decide)).trans h_height.1), (u_eq _ _ _), ((u_ne _ _ (by decide)).trans h_height.2.2)⟩
    · show e3 (f_X6_startRelay_j2_5 (ym_m_mode M) (ym_m_band M) 1 hev bav) (yl_rba T.1) (f_L_startRelay_rba (yl_lmo T.2.1) (yl_rba T.2.1) hev bav) (yl_rba T.2.2)
      simp only [f_L_startRelay_rba, f_X6_startRelay_j2_5, if_pos hc, if_neg hz]
      exact ⟨((u_ne _ _ (by decide)).trans h_band.1), (u_eq _ _ _), ((u_ne _ _ (by decide)).trans h_band.2.2)⟩
    · show e3 (f_X6_startRelay_j2_6 (ym_m_mode M) (ym_m_isUp M) 1 hev bav) (yl_rup T.1) (f_L_startRelay_rup (yl_lmo T.2.1) (yl_rup T.2.1) hev bav) (yl_rup T.2.2)
      simp only [f_L_startRelay_rup, f_X6_startRelay_j2_6, if_pos hc, if_neg hz]
      exact ⟨((u_ne _ _ (by decide)).trans h_isUp.1), (u_eq _ _ _), ((u_ne _ _ (by decide)).trans h_isUp.2.2)⟩
    · show e3 (f_X6_startRelay_j2_7 (ym_m_mode M) (ym_m_gone M) 1 hev bav) (yl_rsa T.1) (f_L_startRelay_rsa (yl_lmo T.2.1) (yl_rsa T.2.1) hev bav) (yl_rsa T.2.2)
      simp only [f_L_startRelay_rsa, f_X6_startRelay_j2_7, if_pos hc, if_neg hz]
      exact ⟨((u_ne _ _ (by decide)).trans h_gone.1), (u_eq _ _ _), ((u_ne _ _ (by decide)).trans h_gone.2.2)⟩
    · show e3 (f_X6_startRelay_j2_8 (ym_m_mode M) (ym_m_risings M) 1 hev bav) (yl_rri T.1) (f_L_startRelay_rri (yl_lmo T.2.1) (yl_rri T.2.1) hev bav) (yl_rri T.2.2)
      simp only [f_L_startRelay_rri, f_X6_startRelay_j2_8, if_pos hc, if_neg hz]
      exact ⟨((u_ne _ _ (by decide)).trans h_risings.1), (u_eq _ _ _), ((u_ne _ _ (by decide)).trans h_risings.2.2)⟩
    · show (Rgo (yl_lmo T.1) (yl_kgo T.1) ((ym_m_goesOn M) 0)) ∧ (Rgo (f_L_startRelay_lmo (yl_lmo T.2.1) hev bav) (yl_kgo T.2.1) ((ym_m_goesOn M) 1)) ∧ (Rgo (yl_lmo T.2.2) (yl_kgo T.2.2) ((ym_m_goesOn M) 2))
      simp only [f_L_startRelay_lmo, if_pos hc]
      exact ⟨h_go.1, fun h => by rcases h with h | h <;> exact absurd h (by decide), h_go.2.2⟩
    · show (Imd (yl_lmo T.1)) ∧ (Imd (f_L_startRelay_lmo (yl_lmo T.2.1) hev bav)) ∧ (Imd (yl_lmo T.2.2))
      simp only [f_L_startRelay_lmo, if_pos hc]
      exact ⟨h_i_md.1, Or.inr (Or.inr (Or.inr rfl)), h_i_md.2.2⟩
    · show (Ist (yl_rup T.1)) ∧ (Ist (f_L_startRelay_rup (yl_lmo T.2.1) (yl_rup T.2.1) hev bav)) ∧ (Ist (yl_rup T.2.2))
      simp only [f_L_startRelay_rup, if_pos hc]
      exact ⟨h_i_up.1, Or.inr rfl, h_i_up.2.2⟩
    · show (Isw (yl_rsw T.1) (yl_rpe T.1) (yl_rhe T.1)) ∧ (Isw (yl_rsw T.2.1) (yl_rpe T.2.1) (f_L_startRelay_rhe (yl_lmo T.2.1) (yl_rhe T.2.1) hev bav)) ∧ (Isw (yl_rsw T.2.2) (yl_rpe T.2.2) (yl_rhe T.2.2))
      simp only [f_L_startRelay_rhe, if_pos hc]
      exact ⟨h_i_sw.1, ⟨(h_i_sw.2.1).1, (h_i_sw.2.1).2.1, (h_i_sw.2.1).2.2.1, (sr_ok hc).1, (sr_ok hc).2, (h_i_sw.2.1).2.2.2.2.2⟩, h_i_sw.2.2⟩
    · show (Irl (yl_lmo T.1) (yl_rpr T.1) (yl_rsa T.1) (yl_rri T.1) (yl_rse T.1)) ∧ (Irl (f_L_startRelay_lmo (yl_lmo T.2.1) hev bav) (f_L_startRelay_rpr (yl_lmo T.2.1) (yl_rpr T.2.1) hev bav) (f_L_startRelay_rsa (yl_lmo T.2.1) (yl_rsa T.2.1) hev bav) (f_L_startRelay_rri (yl_lmo T.2.1) (yl_rri T.2.1) hev bav) (yl_rse T.2.1)) ∧ (Irl (yl_lmo T.2.2) (yl_rpr T.2.2) (yl_rsa T.2.2) (yl_rri T.2.2) (yl_rse T.2.2))
      simp only [f_L_startRelay_lmo, f_L_startRelay_rpr, f_L_startRelay_rsa, f_L_startRelay_rri, if_pos hc]
      exact ⟨h_i_rl.1, fun _ => ⟨rfl, by decide, by decide, by decide, by decide, fun q => absurd q (by decide)⟩, h_i_rl.2.2⟩
  · have hz : f_X6_can_j1_1 (f_X6_startRelay_j1_1 (ym_m_mode M) 1 hev bav) = 0 := can_no (by rw [hcd]; exact w123_n hc)
    refine ⟨?_, h_bs, h_a1, h_a2, h_b, h_deadTime, h_load, h_measure, h_before, h_low, h_high, h_setpoint, h_integral, h_guard, h_share, ?_, h_hand, h_follows, h_hasMaster, h_isStarved, h_held, h_sum, h_lastError, h_lastRate, ?_, ?_, ?_, ?_, ?_, ?_, ?_, h_second, h_greatest, h_least, h_period, h_swing, h_gain, h_past, ?_, h_sched, h_i_lim, h_i_gb, ?_, h_i_dt, h_i_me, h_i_st, ?_, h_i_gl, ?_, ?_, h_i_m0⟩
    · show (f_X6_startRelay_j1_1 (ym_m_mode M) 1 hev bav) = f_L_startRelay_r (yl_lmo T.2.1) hev bav
      rw [hcd]; unfold f_L_startRelay_r; rw [if_neg hc]
    · show e3 (f_X6_startRelay_j2_1 (ym_m_mode M) 1 hev bav) (yl_lmo T.1) (f_L_startRelay_lmo (yl_lmo T.2.1) hev bav) (yl_lmo T.2.2)
      simp only [f_L_startRelay_lmo, f_X6_startRelay_j2_1, if_neg hc, if_pos hz]
      exact h_mode
    · show e3 (f_X6_startRelay_j2_2 (ym_m_mode M) (ym_m_experiment M) 1 hev bav) (yl_rpr T.1) (f_L_startRelay_rpr (yl_lmo T.2.1) (yl_rpr T.2.1) hev bav) (yl_rpr T.2.2)
      simp only [f_L_startRelay_rpr, f_X6_startRelay_j2_2, if_neg hc, if_pos hz]
      exact h_experiment
    · show e3 (f_X6_startRelay_j2_3 (ym_m_past M) (ym_m_mode M) (ym_m_center M) 1 hev bav) (yl_rce T.1) (f_L_startRelay_rce (yl_lmo T.2.1) (yl_lou T.2.1) (yl_rce T.2.1) hev bav) (yl_rce T.2.2)
      simp only [f_L_startRelay_rce, f_X6_startRelay_j2_3, if_neg hc, if_pos hz]
      exact h_center
    · show e3 (f_X6_startRelay_j2_4 (ym_m_mode M) (ym_m_height M) 1 hev bav) (yl_rhe T.1) (f_L_startRelay_rhe (yl_lmo T.2.1) (yl_rhe T.2.1) hev bav) (yl_rhe T.2.2)
      simp only [f_L_startRelay_rhe, f_X6_startRelay_j2_4, if_neg hc, if_pos hz]
      exact h_height
    · show e3 (f_X6_startRelay_j2_5 (ym_m_mode M) (ym_m_band M) 1 hev bav) (yl_rba T.1) (f_L_startRelay_rba (yl_lmo T.2.1) (yl_rba T.2.1) hev bav) (yl_rba T.2.2)
      simp only [f_L_startRelay_rba, f_X6_startRelay_j2_5, if_neg hc, if_pos hz]
      exact h_band
    · show e3 (f_X6_startRelay_j2_6 (ym_m_mode M) (ym_m_isUp M) 1 hev bav) (yl_rup T.1) (f_L_startRelay_rup (yl_lmo T.2.1) (yl_rup T.2.1) hev bav) (yl_rup T.2.2)
      simp only [f_L_startRelay_rup, f_X6_startRelay_j2_6, if_neg hc, if_pos hz]
      exact h_isUp
    · show e3 (f_X6_startRelay_j2_7 (ym_m_mode M) (ym_m_gone M) 1 hev bav) (yl_rsa T.1) (f_L_startRelay_rsa (yl_lmo T.2.1) (yl_rsa T.2.1) hev bav) (yl_rsa T.2.2)
      simp only [f_L_startRelay_rsa, f_X6_startRelay_j2_7, if_neg hc, if_pos hz]
      exact h_gone
    · show e3 (f_X6_startRelay_j2_8 (ym_m_mode M) (ym_m_risings M) 1 hev bav) (yl_rri T.1) (f_L_startRelay_rri (yl_lmo T.2.1) (yl_rri T.2.1) hev bav) (yl_rri T.2.2)
      simp only [f_L_startRelay_rri, f_X6_startRelay_j2_8, if_neg hc, if_pos hz]
      exact h_risings
    · show (Rgo (yl_lmo T.1) (yl_kgo T.1) ((ym_m_goesOn M) 0)) ∧ (Rgo (f_L_startRelay_lmo (yl_lmo T.2.1) hev bav) (yl_kgo T.2.1) ((ym_m_goesOn M) 1)) ∧ (Rgo (yl_lmo T.2.2) (yl_kgo T.2.2) ((ym_m_goesOn M) 2))
      simp only [f_L_startRelay_lmo, if_neg hc]
      exact h_go
    · show (Imd (yl_lmo T.1)) ∧ (Imd (f_L_startRelay_lmo (yl_lmo T.2.1) hev bav)) ∧ (Imd (yl_lmo T.2.2))
      simp only [f_L_startRelay_lmo, if_neg hc]
      exact h_i_md
    · show (Ist (yl_rup T.1)) ∧ (Ist (f_L_startRelay_rup (yl_lmo T.2.1) (yl_rup T.2.1) hev bav)) ∧ (Ist (yl_rup T.2.2))
      simp only [f_L_startRelay_rup, if_neg hc]
      exact h_i_up
    · show (Isw (yl_rsw T.1) (yl_rpe T.1) (yl_rhe T.1)) ∧ (Isw (yl_rsw T.2.1) (yl_rpe T.2.1) (f_L_startRelay_rhe (yl_lmo T.2.1) (yl_rhe T.2.1) hev bav)) ∧ (Isw (yl_rsw T.2.2) (yl_rpe T.2.2) (yl_rhe T.2.2))
      simp only [f_L_startRelay_rhe, if_neg hc]
      exact h_i_sw
    · show (Irl (yl_lmo T.1) (yl_rpr T.1) (yl_rsa T.1) (yl_rri T.1) (yl_rse T.1)) ∧ (Irl (f_L_startRelay_lmo (yl_lmo T.2.1) hev bav) (f_L_startRelay_rpr (yl_lmo T.2.1) (yl_rpr T.2.1) hev bav) (f_L_startRelay_rsa (yl_lmo T.2.1) (yl_rsa T.2.1) hev bav) (f_L_startRelay_rri (yl_lmo T.2.1) (yl_rri T.2.1) hev bav) (yl_rse T.2.1)) ∧ (Irl (yl_lmo T.2.2) (yl_rpr T.2.2) (yl_rsa T.2.2) (yl_rri T.2.2) (yl_rse T.2.2))
      simp only [f_L_startRelay_lmo, f_L_startRelay_rpr, f_L_startRelay_rsa, f_L_startRelay_rri, if_neg hc]
      exact h_i_rl
set_option maxHeartbeats 1000000 in
theorem rel_startRelay_2 (hR : Rel T bs M) (hev : Int32) (bav : Int32) : rm_thrown (um_startRelay M 2 hev bav) = lr_startRelay T.2.2 hev bav ∧ Rel (T.1, T.2.1, (lu_startRelay T.2.2 hev bav)) bs (um_startRelay M 2 hev bav) := by
  obtain ⟨h_bs, h_a1, h_a2, h_b, h_deadTime, h_load, h_measure, h_before, h_low, h_high, h_setpoint, h_integral, h_guard, h_share, h_mode, h_hand, h_follows, h_hasMaster, h_isStarved, h_held, h_sum, h_lastError, h_lastRate, h_experiment, h_center, h_height, h_band, h_isUp, h_gone, h_risings, h_second, h_greatest, h_least, h_period, h_swing, h_gain, h_past, h_go, h_sched, h_i_lim, h_i_gb, h_i_md, h_i_dt, h_i_me, h_i_st, h_i_up, h_i_gl, h_i_sw, h_i_rl, h_i_m0⟩ := Rel_iff.mp hR
  have hcd : (f_X6_startRelay_j1_1 (ym_m_mode M) 2 hev bav) = wr123 (f_X5_startRelay_x (yl_lmo T.2.2) hev bav) := cd_startRelay il_2 (h_mode.2.2)
  by_cases hc : (f_X5_startRelay_x (yl_lmo T.2.2) hev bav) = 0
  · have hz : ¬ f_X6_can_j1_1 (f_X6_startRelay_j1_1 (ym_m_mode M) 2 hev bav) = 0 := can_ok (by rw [hcd]; exact w123_0 hc)
    refine ⟨?_, h_bs, h_a1, h_a2, h_b, h_deadTime, h_load, h_measure, h_before, h_low, h_high, h_setpoint, h_integral, h_guard, h_share, ?_, h_hand, h_follows, h_hasMaster, h_isStarved, h_held, h_sum, h_lastError, h_lastRate, ?_, ?_, ?_, ?_, ?_, ?_, ?_, h_second, h_greatest, h_least, h_period, h_swing, h_gain, h_past, ?_, h_sched, h_i_lim, h_i_gb, ?_, h_i_dt, h_i_me, h_i_st, ?_, h_i_gl, ?_, ?_, h_i_m0⟩
    · show (f_X6_startRelay_j1_1 (ym_m_mode M) 2 hev bav) = f_L_startRelay_r (yl_lmo T.2.2) hev bav
      rw [hcd]; unfold f_L_startRelay_r; rw [if_pos hc]; exact w123_0 hc
    · show e3 (f_X6_startRelay_j2_1 (ym_m_mode M) 2 hev bav) (yl_lmo T.1) (yl_lmo T.2.1) (f_L_startRelay_lmo (yl_lmo T.2.2) hev bav)
      simp only [f_L_startRelay_lmo, f_X6_startRelay_j2_1, if_pos hc, if_neg hz]
      exact ⟨((u_ne _ _ (by decide)).trans h_mode.1), ((u_ne _ _ (by decide)).trans h_mode.2.1), (u_eq _ _ _)⟩
    · show e3 (f_X6_startRelay_j2_2 (ym_m_mode M) (ym_m_experiment M) 2 hev bav) (yl_rpr T.1) (yl_rpr T.2.1) (f_L_startRelay_rpr (yl_lmo T.2.2) (yl_rpr T.2.2) hev bav)
      simp only [f_L_startRelay_rpr, f_X6_startRelay_j2_2, if_pos hc, if_neg hz]
      exact ⟨((u_ne _ _ (by decide)).trans h_experiment.1), ((u_ne _ _ (by decide)).trans h_experiment.2.1), (u_eq _ _ _)⟩
    · show e3 (f_X6_startRelay_j2_3 (ym_m_past M) (ym_m_mode M) (ym_m_center M) 2 hev bav) (yl_rce T.1) (yl_rce T.2.1) (f_L_startRelay_rce (yl_lmo T.2.2) (yl_lou T.2.2) (yl_rce T.2.2) hev bav)
      simp only [f_L_startRelay_rce, f_X6_startRelay_j2_3, if_pos hc, if_neg hz]
      rw [show f_X6_latest_r (ym_m_past M) 2 = (yl_lou T.2.2) from (rp_out (h_past.2.2)).symm]
      exact ⟨((ul_ne _ _ (by decide)).trans h_center.1), ((ul_ne _ _ (by decide)).trans h_center.2.1), (ul_eq _ _ _)⟩
    · show e3 (f_X6_startRelay_j2_4 (ym_m_mode M) (ym_m_height M) 2 hev bav) (yl_rhe T.1) (yl_rhe T.2.1) (f_L_startRelay_rhe (yl_lmo T.2.2) (yl_rhe T.2.2) hev bav)
      simp only [f_L_startRelay_rhe, f_X6_startRelay_j2_4, if_pos hc, if_neg hz]
      exact ⟨((u_ne _ _ (by decide)).trans h_height.1), ((u_ne _ _ (by decide)).trans h_height.2.1), (u_eq _ _ _)⟩
    · show e3 (f_X6_startRelay_j2_5 (ym_m_mode M) (ym_m_band M) 2 hev bav) (yl_rba T.1) (yl_rba T.2.1) (f_L_startRelay_rba (yl_lmo T.2.2) (yl_rba T.2.2) hev bav)
      simp only [f_L_startRelay_rba, f_X6_startRelay_j2_5, if_pos hc, if_neg hz]
      exact ⟨((u_ne _ _ (by decide)).trans h_band.1), ((u_ne _ _ (by decide)).trans h_band.2.1), (u_eq _ _ _)⟩
    · show e3 (f_X6_startRelay_j2_6 (ym_m_mode M) (ym_m_isUp M) 2 hev bav) (yl_rup T.1) (yl_rup T.2.1) (f_L_startRelay_rup (yl_lmo T.2.2) (yl_rup T.2.2) hev bav)
      simp only [f_L_startRelay_rup, f_X6_startRelay_j2_6, if_pos hc, if_neg hz]
      exact ⟨((u_ne _ _ (by decide)).trans h_isUp.1), ((u_ne _ _ (by decide)).trans h_isUp.2.1), (u_eq _ _ _)⟩
    · show e3 (f_X6_startRelay_j2_7 (ym_m_mode M) (ym_m_gone M) 2 hev bav) (yl_rsa T.1) (yl_rsa T.2.1) (f_L_startRelay_rsa (yl_lmo T.2.2) (yl_rsa T.2.2) hev bav)
      simp only [f_L_startRelay_rsa, f_X6_startRelay_j2_7, if_pos hc, if_neg hz]
      exact ⟨((u_ne _ _ (by decide)).trans h_gone.1), ((u_ne _ _ (by decide)).trans h_gone.2.1), (u_eq _ _ _)⟩
    · show e3 (f_X6_startRelay_j2_8 (ym_m_mode M) (ym_m_risings M) 2 hev bav) (yl_rri T.1) (yl_rri T.2.1) (f_L_startRelay_rri (yl_lmo T.2.2) (yl_rri T.2.2) hev bav)
      simp only [f_L_startRelay_rri, f_X6_startRelay_j2_8, if_pos hc, if_neg hz]
      exact ⟨((u_ne _ _ (by decide)).trans h_risings.1), ((u_ne _ _ (by decide)).trans h_risings.2.1), (u_eq _ _ _)⟩
    · show (Rgo (yl_lmo T.1) (yl_kgo T.1) ((ym_m_goesOn M) 0)) ∧ (Rgo (yl_lmo T.2.1) (yl_kgo T.2.1) ((ym_m_goesOn M) 1)) ∧ (Rgo (f_L_startRelay_lmo (yl_lmo T.2.2) hev bav) (yl_kgo T.2.2) ((ym_m_goesOn M) 2))
      simp only [f_L_startRelay_lmo, if_pos hc]
      exact ⟨h_go.1, h_go.2.1, fun h => by rcases h with h | h <;> exact absurd h (by decide)⟩
    · show (Imd (yl_lmo T.1)) ∧ (Imd (yl_lmo T.2.1)) ∧ (Imd (f_L_startRelay_lmo (yl_lmo T.2.2) hev bav))
      simp only [f_L_startRelay_lmo, if_pos hc]
      exact ⟨h_i_md.1, h_i_md.2.1, Or.inr (Or.inr (Or.inr rfl))⟩
    · show (Ist (yl_rup T.1)) ∧ (Ist (yl_rup T.2.1)) ∧ (Ist (f_L_startRelay_rup (yl_lmo T.2.2) (yl_rup T.2.2) hev bav))
      simp only [f_L_startRelay_rup, if_pos hc]
      exact ⟨h_i_up.1, h_i_up.2.1, Or.inr rfl⟩
    · show (Isw (yl_rsw T.1) (yl_rpe T.1) (yl_rhe T.1)) ∧ (Isw (yl_rsw T.2.1) (yl_rpe T.2.1) (yl_rhe T.2.1)) ∧ (Isw (yl_rsw T.2.2) (yl_rpe T.2.2) (f_L_startRelay_rhe (yl_lmo T.2.2) (yl_rhe T.2.2) hev bav))
      simp only [f_L_startRelay_rhe, if_pos hc]
      exact ⟨h_i_sw.1, h_i_sw.2.1, ⟨(h_i_sw.2.2).1, (h_i_sw.2.2).2.1, (h_i_sw.2.2).2.2.1, (sr_ok hc).1, (sr_ok hc).2, (h_i_sw.2.2).2.2.2.2.2⟩⟩
    · show (Irl (yl_lmo T.1) (yl_rpr T.1) (yl_rsa T.1) (yl_rri T.1) (yl_rse T.1)) ∧ (Irl (yl_lmo T.2.1) (yl_rpr T.2.1) (yl_rsa T.2.1) (yl_rri T.2.1) (yl_rse T.2.1)) ∧ (Irl (f_L_startRelay_lmo (yl_lmo T.2.2) hev bav) (f_L_startRelay_rpr (yl_lmo T.2.2) (yl_rpr T.2.2) hev bav) (f_L_startRelay_rsa (yl_lmo T.2.2) (yl_rsa T.2.2) hev bav) (f_L_startRelay_rri (yl_lmo T.2.2) (yl_rri T.2.2) hev bav) (yl_rse T.2.2))
      simp only [f_L_startRelay_lmo, f_L_startRelay_rpr, f_L_startRelay_rsa, f_L_startRelay_rri, if_pos hc]
      exact ⟨h_i_rl.1, h_i_rl.2.1, fun _ => ⟨rfl, by decide, by decide, by decide, by decide, fun q => absurd q (by decide)⟩⟩
  · have hz : f_X6_can_j1_1 (f_X6_startRelay_j1_1 (ym_m_mode M) 2 hev bav) = 0 := can_no (by rw [hcd]; exact w123_n hc)
    refine ⟨?_, h_bs, h_a1, h_a2, h_b, h_deadTime, h_load, h_measure, h_before, h_low, h_high, h_setpoint, h_integral, h_guard, h_share, ?_, h_hand, h_follows, h_hasMaster, h_isStarved, h_held, h_sum, h_lastError, h_lastRate, ?_, ?_, ?_, ?_, ?_, ?_, ?_, h_second, h_greatest, h_least, h_period, h_swing, h_gain, h_past, ?_, h_sched, h_i_lim, h_i_gb, ?_, h_i_dt, h_i_me, h_i_st, ?_, h_i_gl, ?_, ?_, h_i_m0⟩
    · show (f_X6_startRelay_j1_1 (ym_m_mode M) 2 hev bav) = f_L_startRelay_r (yl_lmo T.2.2) hev bav
      rw [hcd]; unfold f_L_startRelay_r; rw [if_neg hc]
    · show e3 (f_X6_startRelay_j2_1 (ym_m_mode M) 2 hev bav) (yl_lmo T.1) (yl_lmo T.2.1) (f_L_startRelay_lmo (yl_lmo T.2.2) hev bav)
      simp only [f_L_startRelay_lmo, f_X6_startRelay_j2_1, if_neg hc, if_pos hz]
      exact h_mode
    · show e3 (f_X6_startRelay_j2_2 (ym_m_mode M) (ym_m_experiment M) 2 hev bav) (yl_rpr T.1) (yl_rpr T.2.1) (f_L_startRelay_rpr (yl_lmo T.2.2) (yl_rpr T.2.2) hev bav)
      simp only [f_L_startRelay_rpr, f_X6_startRelay_j2_2, if_neg hc, if_pos hz]
      exact h_experiment
    · show e3 (f_X6_startRelay_j2_3 (ym_m_past M) (ym_m_mode M) (ym_m_center M) 2 hev bav) (yl_rce T.1) (yl_rce T.2.1) (f_L_startRelay_rce (yl_lmo T.2.2) (yl_lou T.2.2) (yl_rce T.2.2) hev bav)
      simp only [f_L_startRelay_rce, f_X6_startRelay_j2_3, if_neg hc, if_pos hz]
      exact h_center
    · show e3 (f_X6_startRelay_j2_4 (ym_m_mode M) (ym_m_height M) 2 hev bav) (yl_rhe T.1) (yl_rhe T.2.1) (f_L_startRelay_rhe (yl_lmo T.2.2) (yl_rhe T.2.2) hev bav)
      simp only [f_L_startRelay_rhe, f_X6_startRelay_j2_4, if_neg hc, if_pos hz]
      exact h_height
    · show e3 (f_X6_startRelay_j2_5 (ym_m_mode M) (ym_m_band M) 2 hev bav) (yl_rba T.1) (yl_rba T.2.1) (f_L_startRelay_rba (yl_lmo T.2.2) (yl_rba T.2.2) hev bav)
      simp only [f_L_startRelay_rba, f_X6_startRelay_j2_5, if_neg hc, if_pos hz]
      exact h_band
    · show e3 (f_X6_startRelay_j2_6 (ym_m_mode M) (ym_m_isUp M) 2 hev bav) (yl_rup T.1) (yl_rup T.2.1) (f_L_startRelay_rup (yl_lmo T.2.2) (yl_rup T.2.2) hev bav)
      simp only [f_L_startRelay_rup, f_X6_startRelay_j2_6, if_neg hc, if_pos hz]
      exact h_isUp
    · show e3 (f_X6_startRelay_j2_7 (ym_m_mode M) (ym_m_gone M) 2 hev bav) (yl_rsa T.1) (yl_rsa T.2.1) (f_L_startRelay_rsa (yl_lmo T.2.2) (yl_rsa T.2.2) hev bav)
      simp only [f_L_startRelay_rsa, f_X6_startRelay_j2_7, if_neg hc, if_pos hz]
      exact h_gone
    · show e3 (f_X6_startRelay_j2_8 (ym_m_mode M) (ym_m_risings M) 2 hev bav) (yl_rri T.1) (yl_rri T.2.1) (f_L_startRelay_rri (yl_lmo T.2.2) (yl_rri T.2.2) hev bav)
      simp only [f_L_startRelay_rri, f_X6_startRelay_j2_8, if_neg hc, if_pos hz]
      exact h_risings
    · show (Rgo (yl_lmo T.1) (yl_kgo T.1) ((ym_m_goesOn M) 0)) ∧ (Rgo (yl_lmo T.2.1) (yl_kgo T.2.1) ((ym_m_goesOn M) 1)) ∧ (Rgo (f_L_startRelay_lmo (yl_lmo T.2.2) hev bav) (yl_kgo T.2.2) ((ym_m_goesOn M) 2))
      simp only [f_L_startRelay_lmo, if_neg hc]
      exact h_go
    · show (Imd (yl_lmo T.1)) ∧ (Imd (yl_lmo T.2.1)) ∧ (Imd (f_L_startRelay_lmo (yl_lmo T.2.2) hev bav))
      simp only [f_L_startRelay_lmo, if_neg hc]
      exact h_i_md
    · show (Ist (yl_rup T.1)) ∧ (Ist (yl_rup T.2.1)) ∧ (Ist (f_L_startRelay_rup (yl_lmo T.2.2) (yl_rup T.2.2) hev bav))
      simp only [f_L_startRelay_rup, if_neg hc]
      exact h_i_up
    · show (Isw (yl_rsw T.1) (yl_rpe T.1) (yl_rhe T.1)) ∧ (Isw (yl_rsw T.2.1) (yl_rpe T.2.1) (yl_rhe T.2.1)) ∧ (Isw (yl_rsw T.2.2) (yl_rpe T.2.2) (f_L_startRelay_rhe (yl_lmo T.2.2) (yl_rhe T.2.2) hev bav))
      simp only [f_L_startRelay_rhe, if_neg hc]
      exact h_i_sw
    · show (Irl (yl_lmo T.1) (yl_rpr T.1) (yl_rsa T.1) (yl_rri T.1) (yl_rse T.1)) ∧ (Irl (yl_lmo T.2.1) (yl_rpr T.2.1) (yl_rsa T.2.1) (yl_rri T.2.1) (yl_rse T.2.1)) ∧ (Irl (f_L_startRelay_lmo (yl_lmo T.2.2) hev bav) (f_L_startRelay_rpr (yl_lmo T.2.2) (yl_rpr T.2.2) hev bav) (f_L_startRelay_rsa (yl_lmo T.2.2) (yl_rsa T.2.2) hev bav) (f_L_startRelay_rri (yl_lmo T.2.2) (yl_rri T.2.2) hev bav) (yl_rse T.2.2))
      simp only [f_L_startRelay_lmo, f_L_startRelay_rpr, f_L_startRelay_rsa, f_L_startRelay_rri, if_neg hc]
      exact h_i_rl
theorem rel_startRelay (hR : Rel T bs M) (lp : Int32) (hev : Int32) (bav : Int32) : rm_thrown (um_startRelay M lp hev bav) = ofL T lp (fun s => lr_startRelay s hev bav) 1 ∧ Rel (onL T lp (fun s => lu_startRelay s hev bav)) bs (um_startRelay M lp hev bav) := by
  by_cases h0 : lp = 0
  · subst h0
    rw [ofL_0, onL_0]
    exact rel_startRelay_0 hR hev bav
  by_cases h1 : lp = 1
  · subst h1
    rw [ofL_1, onL_1]
    exact rel_startRelay_1 hR hev bav
  by_cases h2 : lp = 2
  · subst h2
    rw [ofL_2, onL_2]
    exact rel_startRelay_2 hR hev bav
  rw [ofL_o T _ _ h0 h1 h2, onL_o T _ h0 h1 h2]
  have hcd : (f_X6_startRelay_j1_1 (ym_m_mode M) lp hev bav) = 1 := by simp only [f_X6_startRelay_j1_1, il_o h0 h1 h2]; rfl
  have hz : f_X6_can_j1_1 (f_X6_startRelay_j1_1 (ym_m_mode M) lp hev bav) = 0 := can_no (by rw [hcd]; decide)
  obtain ⟨h_bs, h_a1, h_a2, h_b, h_deadTime, h_load, h_measure, h_before, h_low, h_high, h_setpoint, h_integral, h_guard, h_share, h_mode, h_hand, h_follows, h_hasMaster, h_isStarved, h_held, h_sum, h_lastError, h_lastRate, h_experiment, h_center, h_height, h_band, h_isUp, h_gone, h_risings, h_second, h_greatest, h_least, h_period, h_swing, h_gain, h_past, h_go, h_sched, h_i_lim, h_i_gb, h_i_md, h_i_dt, h_i_me, h_i_st, h_i_up, h_i_gl, h_i_sw, h_i_rl, h_i_m0⟩ := Rel_iff.mp hR
  refine ⟨hcd, h_bs, h_a1, h_a2, h_b, h_deadTime, h_load, h_measure, h_before, h_low, h_high, h_setpoint, h_integral, h_guard, h_share, ?_, h_hand, h_follows, h_hasMaster, h_isStarved, h_held, h_sum, h_lastError, h_lastRate, ?_, ?_, ?_, ?_, ?_, ?_, ?_, h_second, h_greatest, h_least, h_period, h_swing, h_gain, h_past, h_go, h_sched, h_i_lim, h_i_gb, h_i_md, h_i_dt, h_i_me, h_i_st, h_i_up, h_i_gl, h_i_sw, h_i_rl, h_i_m0⟩
  · show e3 (f_X6_startRelay_j2_1 (ym_m_mode M) lp hev bav) (yl_lmo T.1) (yl_lmo T.2.1) (yl_lmo T.2.2)
    simp only [f_X6_startRelay_j2_1, if_pos hz]
    exact h_mode
  · show e3 (f_X6_startRelay_j2_2 (ym_m_mode M) (ym_m_experiment M) lp hev bav) (yl_rpr T.1) (yl_rpr T.2.1) (yl_rpr T.2.2)
    simp only [f_X6_startRelay_j2_2, if_pos hz]
    exact h_experiment
  · show e3 (f_X6_startRelay_j2_3 (ym_m_past M) (ym_m_mode M) (ym_m_center M) lp hev bav) (yl_rce T.1) (yl_rce T.2.1) (yl_rce T.2.2)
    simp only [f_X6_startRelay_j2_3, if_pos hz]
    exact h_center
  · show e3 (f_X6_startRelay_j2_4 (ym_m_mode M) (ym_m_height M) lp hev bav) (yl_rhe T.1) (yl_rhe T.2.1) (yl_rhe T.2.2)
    simp only [f_X6_startRelay_j2_4, if_pos hz]
    exact h_height
  · show e3 (f_X6_startRelay_j2_5 (ym_m_mode M) (ym_m_band M) lp hev bav) (yl_rba T.1) (yl_rba T.2.1) (yl_rba T.2.2)
    simp only [f_X6_startRelay_j2_5, if_pos hz]
    exact h_band
  · show e3 (f_X6_startRelay_j2_6 (ym_m_mode M) (ym_m_isUp M) lp hev bav) (yl_rup T.1) (yl_rup T.2.1) (yl_rup T.2.2)
    simp only [f_X6_startRelay_j2_6, if_pos hz]
    exact h_isUp
  · show e3 (f_X6_startRelay_j2_7 (ym_m_mode M) (ym_m_gone M) lp hev bav) (yl_rsa T.1) (yl_rsa T.2.1) (yl_rsa T.2.2)
    simp only [f_X6_startRelay_j2_7, if_pos hz]
    exact h_gone
  · show e3 (f_X6_startRelay_j2_8 (ym_m_mode M) (ym_m_risings M) lp hev bav) (yl_rri T.1) (yl_rri T.2.1) (yl_rri T.2.2)
    simp only [f_X6_startRelay_j2_8, if_pos hz]
    exact h_risings
set_option maxHeartbeats 1000000 in
theorem rel_experiment_0 (hR : Rel T bs M) (uo : Nat → Int64) : rm_thrown (um_experiment M 0 ) = lr_experiment T.1  ∧ (lr_experiment T.1  = 0 → lo_experiment T.1 uo  (0 : Int32).toNatClampNeg = (rm_experiment M 0 ).toInt64) ∧ Rel ((lu_experiment T.1 ), T.2.1, T.2.2) bs (um_experiment M 0 ) := by
  obtain ⟨h_bs, h_a1, h_a2, h_b, h_deadTime, h_load, h_measure, h_before, h_low, h_high, h_setpoint, h_integral, h_guard, h_share, h_mode, h_hand, h_follows, h_hasMaster, h_isStarved, h_held, h_sum, h_lastError, h_lastRate, h_experiment, h_center, h_height, h_band, h_isUp, h_gone, h_risings, h_second, h_greatest, h_least, h_period, h_swing, h_gain, h_past, h_go, h_sched, h_i_lim, h_i_gb, h_i_md, h_i_dt, h_i_me, h_i_st, h_i_up, h_i_gl, h_i_sw, h_i_rl, h_i_m0⟩ := Rel_iff.mp hR
  have hcd : (f_X6_isAsked_j1_1 0) = 0 := by simp only [f_X6_isAsked_j1_1, il_0]; decide
  have hz : ¬ f_X6_can_j1_1 (f_X6_isAsked_j1_1 0) = 0 := can_ok hcd
  refine ⟨?_, fun _ => ?_, h_bs, h_a1, h_a2, h_b, h_deadTime, h_load, h_measure, h_before, h_low, h_high, h_setpoint, h_integral, h_guard, h_share, h_mode, h_hand, h_follows, h_hasMaster, h_isStarved, h_held, h_sum, h_lastError, h_lastRate, h_experiment, h_center, h_height, h_band, h_isUp, h_gone, h_risings, h_second, h_greatest, h_least, h_period, h_swing, h_gain, h_past, h_go, h_sched, h_i_lim, h_i_gb, h_i_md, h_i_dt, h_i_me, h_i_st, h_i_up, h_i_gl, h_i_sw, h_i_rl, h_i_m0⟩
  · exact hcd
  · show (f_L_experiment_uo (yl_rpr T.1) uo) (0 : Int32).toNatClampNeg = (f_X6_experiment_j1_1 (ym_m_experiment M) 0).toInt64
    simp only [f_L_experiment_uo, f_X6_experiment_j1_1, f_X6_isAsked_r, if_neg hz]
    rw [ul_eq]
    exact congrArg Int32.toInt64 (h_experiment.1).symm
set_option maxHeartbeats 1000000 in
theorem rel_experiment_1 (hR : Rel T bs M) (uo : Nat → Int64) : rm_thrown (um_experiment M 1 ) = lr_experiment T.2.1  ∧ (lr_experiment T.2.1  = 0 → lo_experiment T.2.1 uo  (0 : Int32).toNatClampNeg = (rm_experiment M 1 ).toInt64) ∧ Rel (T.1, (lu_experiment T.2.1 ), T.2.2) bs (um_experiment M 1 ) := by
  obtain ⟨h_bs, h_a1, h_a2, h_b, h_deadTime, h_load, h_measure, h_before, h_low, h_high, h_setpoint, h_integral, h_guard, h_share, h_mode, h_hand, h_follows, h_hasMaster, h_isStarved, h_held, h_sum, h_lastError, h_lastRate, h_experiment, h_center, h_height, h_band, h_isUp, h_gone, h_risings, h_second, h_greatest, h_least, h_period, h_swing, h_gain, h_past, h_go, h_sched, h_i_lim, h_i_gb, h_i_md, h_i_dt, h_i_me, h_i_st, h_i_up, h_i_gl, h_i_sw, h_i_rl, h_i_m0⟩ := Rel_iff.mp hR
  have hcd : (f_X6_isAsked_j1_1 1) = 0 := by simp only [f_X6_isAsked_j1_1, il_1]; decide
  have hz : ¬ f_X6_can_j1_1 (f_X6_isAsked_j1_1 1) = 0 := can_ok hcd
  refine ⟨?_, fun _ => ?_, h_bs, h_a1, h_a2, h_b, h_deadTime, h_load, h_measure, h_before, h_low, h_high, h_setpoint, h_integral, h_guard, h_share, h_mode, h_hand, h_follows, h_hasMaster, h_isStarved, h_held, h_sum, h_lastError, h_lastRate, h_experiment, h_center, h_height, h_band, h_isUp, h_gone, h_risings, h_second, h_greatest, h_least, h_period, h_swing, h_gain, h_past, h_go, h_sched, h_i_lim, h_i_gb, h_i_md, h_i_dt, h_i_me, h_i_st, h_i_up, h_i_gl, h_i_sw, h_i_rl, h_i_m0⟩
  · exact hcd
  · show (f_L_experiment_uo (yl_rpr T.2.1) uo) (0 : Int32).toNatClampNeg = (f_X6_experiment_j1_1 (ym_m_experiment M) 1).toInt64
    simp only [f_L_experiment_uo, f_X6_experiment_j1_1, f_X6_isAsked_r, if_neg hz]
    rw [ul_eq]
    exact congrArg Int32.toInt64 (h_experiment.2.1).symm
set_option maxHeartbeats 1000000 in
theorem rel_experiment_2 (hR : Rel T bs M) (uo : Nat → Int64) : rm_thrown (um_experiment M 2 ) = lr_experiment T.2.2  ∧ (lr_experiment T.2.2  = 0 → lo_experiment T.2.2 uo  (0 : Int32).toNatClampNeg = (rm_experiment M 2 ).toInt64) ∧ Rel (T.1, T.2.1, (lu_experiment T.2.2 )) bs (um_experiment M 2 ) := by
  obtain ⟨h_bs, h_a1, h_a2, h_b, h_deadTime, h_load, h_measure, h_before, h_low, h_high, h_setpoint, h_integral, h_guard, h_share, h_mode, h_hand, h_follows, h_hasMaster, h_isStarved, h_held, h_sum, h_lastError, h_lastRate, h_experiment, h_center, h_height, h_band, h_isUp, h_gone, h_risings, h_second, h_greatest, h_least, h_period, h_swing, h_gain, h_past, h_go, h_sched, h_i_lim, h_i_gb, h_i_md, h_i_dt, h_i_me, h_i_st, h_i_up, h_i_gl, h_i_sw, h_i_rl, h_i_m0⟩ := Rel_iff.mp hR
  have hcd : (f_X6_isAsked_j1_1 2) = 0 := by simp only [f_X6_isAsked_j1_1, il_2]; decide
  have hz : ¬ f_X6_can_j1_1 (f_X6_isAsked_j1_1 2) = 0 := can_ok hcd
  refine ⟨?_, fun _ => ?_, h_bs, h_a1, h_a2, h_b, h_deadTime, h_load, h_measure, h_before, h_low, h_high, h_setpoint, h_integral, h_guard, h_share, h_mode, h_hand, h_follows, h_hasMaster, h_isStarved, h_held, h_sum, h_lastError, h_lastRate, h_experiment, h_center, h_height, h_band, h_isUp, h_gone, h_risings, h_second, h_greatest, h_least, h_period, h_swing, h_gain, h_past, h_go, h_sched, h_i_lim, h_i_gb, h_i_md, h_i_dt, h_i_me, h_i_st, h_i_up, h_i_gl, h_i_sw, h_i_rl, h_i_m0⟩
  · exact hcd
  · show (f_L_experiment_uo (yl_rpr T.2.2) uo) (0 : Int32).toNatClampNeg = (f_X6_experiment_j1_1 (ym_m_experiment M) 2).toInt64
    simp only [f_L_experiment_uo, f_X6_experiment_j1_1, f_X6_isAsked_r, if_neg hz]
    rw [ul_eq]
    exact congrArg Int32.toInt64 (h_experiment.2.2).symm
theorem rel_experiment (hR : Rel T bs M) (lp : Int32) (uo : Nat → Int64) : rm_thrown (um_experiment M lp ) = ofL T lp (fun s => lr_experiment s ) 1 ∧ (ofL T lp (fun s => lr_experiment s ) 1 = 0 → (ofL T lp (fun s => lo_experiment s uo ) uo) (0 : Int32).toNatClampNeg = (rm_experiment M lp ).toInt64) ∧ Rel (onL T lp (fun s => lu_experiment s )) bs (um_experiment M lp ) := by
  by_cases h0 : lp = 0
  · subst h0
    rw [ofL_0, ofL_0, onL_0]
    exact rel_experiment_0 hR  uo
  by_cases h1 : lp = 1
  · subst h1
    rw [ofL_1, ofL_1, onL_1]
    exact rel_experiment_1 hR  uo
  by_cases h2 : lp = 2
  · subst h2
    rw [ofL_2, ofL_2, onL_2]
    exact rel_experiment_2 hR  uo
  rw [ofL_o T _ _ h0 h1 h2, ofL_o T _ _ h0 h1 h2, onL_o T _ h0 h1 h2]
  have hcd : (f_X6_isAsked_j1_1 lp) = 1 := by simp only [f_X6_isAsked_j1_1, il_o h0 h1 h2]; rfl
  have hz : f_X6_can_j1_1 (f_X6_isAsked_j1_1 lp) = 0 := can_no (by rw [hcd]; decide)
  obtain ⟨h_bs, h_a1, h_a2, h_b, h_deadTime, h_load, h_measure, h_before, h_low, h_high, h_setpoint, h_integral, h_guard, h_share, h_mode, h_hand, h_follows, h_hasMaster, h_isStarved, h_held, h_sum, h_lastError, h_lastRate, h_experiment, h_center, h_height, h_band, h_isUp, h_gone, h_risings, h_second, h_greatest, h_least, h_period, h_swing, h_gain, h_past, h_go, h_sched, h_i_lim, h_i_gb, h_i_md, h_i_dt, h_i_me, h_i_st, h_i_up, h_i_gl, h_i_sw, h_i_rl, h_i_m0⟩ := Rel_iff.mp hR
  refine ⟨hcd, fun h => absurd h (by decide), h_bs, h_a1, h_a2, h_b, h_deadTime, h_load, h_measure, h_before, h_low, h_high, h_setpoint, h_integral, h_guard, h_share, h_mode, h_hand, h_follows, h_hasMaster, h_isStarved, h_held, h_sum, h_lastError, h_lastRate, h_experiment, h_center, h_height, h_band, h_isUp, h_gone, h_risings, h_second, h_greatest, h_least, h_period, h_swing, h_gain, h_past, h_go, h_sched, h_i_lim, h_i_gb, h_i_md, h_i_dt, h_i_me, h_i_st, h_i_up, h_i_gl, h_i_sw, h_i_rl, h_i_m0⟩
set_option maxHeartbeats 1000000 in
theorem rel_period_0 (hR : Rel T bs M) (uo : Nat → Int64) : rm_thrown (um_period M 0 ) = lr_period T.1  ∧ (lr_period T.1  = 0 → lo_period T.1 uo  (0 : Int32).toNatClampNeg = (rm_period M 0 ).toInt64) ∧ Rel ((lu_period T.1 ), T.2.1, T.2.2) bs (um_period M 0 ) := by
  obtain ⟨h_bs, h_a1, h_a2, h_b, h_deadTime, h_load, h_measure, h_before, h_low, h_high, h_setpoint, h_integral, h_guard, h_share, h_mode, h_hand, h_follows, h_hasMaster, h_isStarved, h_held, h_sum, h_lastError, h_lastRate, h_experiment, h_center, h_height, h_band, h_isUp, h_gone, h_risings, h_second, h_greatest, h_least, h_period, h_swing, h_gain, h_past, h_go, h_sched, h_i_lim, h_i_gb, h_i_md, h_i_dt, h_i_me, h_i_st, h_i_up, h_i_gl, h_i_sw, h_i_rl, h_i_m0⟩ := Rel_iff.mp hR
  have hcd : (f_X6_isDone_j1_1 (ym_m_experiment M) 0) = wr13 (f_X5_period_x (yl_rpr T.1)) := cd_isDone il_0 (h_experiment.1)
  by_cases hc : (f_X5_period_x (yl_rpr T.1)) = 0
  · have hz : ¬ f_X6_can_j1_1 (f_X6_isDone_j1_1 (ym_m_experiment M) 0) = 0 := can_ok (by rw [hcd]; exact w13_0 hc)
    refine ⟨?_, fun _ => ?_, h_bs, h_a1, h_a2, h_b, h_deadTime, h_load, h_measure, h_before, h_low, h_high, h_setpoint, h_integral, h_guard, h_share, h_mode, h_hand, h_follows, h_hasMaster, h_isStarved, h_held, h_sum, h_lastError, h_lastRate, h_experiment, h_center, h_height, h_band, h_isUp, h_gone, h_risings, h_second, h_greatest, h_least, h_period, h_swing, h_gain, h_past, h_go, h_sched, h_i_lim, h_i_gb, h_i_md, h_i_dt, h_i_me, h_i_st, h_i_up, h_i_gl, h_i_sw, h_i_rl, h_i_m0⟩
    · show (f_X6_isDone_j1_1 (ym_m_experiment M) 0) = f_L_period_r (yl_rpr T.1)
      rw [hcd]; unfold f_L_period_r; rw [if_pos hc]; exact w13_0 hc
    · show (f_L_period_uo (yl_rpr T.1) (yl_rpe T.1) uo) (0 : Int32).toNatClampNeg = (f_X6_period_j1_1 (ym_m_experiment M) (ym_m_period M) 0).toInt64
      simp only [f_L_period_uo, f_X6_period_j1_1, if_pos hc, if_neg (show ¬ f_X6_isDone_r (ym_m_experiment M) 0 = 0 from hz)]
      rw [ul_eq]
      exact congrArg Int32.toInt64 (h_period.1).symm
  · have hz : f_X6_can_j1_1 (f_X6_isDone_j1_1 (ym_m_experiment M) 0) = 0 := can_no (by rw [hcd]; exact w13_n hc)
    refine ⟨?_, fun h => absurd h ?_, h_bs, h_a1, h_a2, h_b, h_deadTime, h_load, h_measure, h_before, h_low, h_high, h_setpoint, h_integral, h_guard, h_share, h_mode, h_hand, h_follows, h_hasMaster, h_isStarved, h_held, h_sum, h_lastError, h_lastRate, h_experiment, h_center, h_height, h_band, h_isUp, h_gone, h_risings, h_second, h_greatest, h_least, h_period, h_swing, h_gain, h_past, h_go, h_sched, h_i_lim, h_i_gb, h_i_md, h_i_dt, h_i_me, h_i_st, h_i_up, h_i_gl, h_i_sw, h_i_rl, h_i_m0⟩
    · show (f_X6_isDone_j1_1 (ym_m_experiment M) 0) = f_L_period_r (yl_rpr T.1)
      rw [hcd]; unfold f_L_period_r; rw [if_neg hc]
    · show ¬ f_L_period_r (yl_rpr T.1) = 0
      unfold f_L_period_r; rw [if_neg hc]; exact w13_n hc
set_option maxHeartbeats 1000000 in
theorem rel_period_1 (hR : Rel T bs M) (uo : Nat → Int64) : rm_thrown (um_period M 1 ) = lr_period T.2.1  ∧ (lr_period T.2.1  = 0 → lo_period T.2.1 uo  (0 : Int32).toNatClampNeg = (rm_period M 1 ).toInt64) ∧ Rel (T.1, (lu_period T.2.1 ), T.2.2) bs (um_period M 1 ) := by
  obtain ⟨h_bs, h_a1, h_a2, h_b, h_deadTime, h_load, h_measure, h_before, h_low, h_high, h_setpoint, h_integral, h_guard, h_share, h_mode, h_hand, h_follows, h_hasMaster, h_isStarved, h_held, h_sum, h_lastError, h_lastRate, h_experiment, h_center, h_height, h_band, h_isUp, h_gone, h_risings, h_second, h_greatest, h_least, h_period, h_swing, h_gain, h_past, h_go, h_sched, h_i_lim, h_i_gb, h_i_md, h_i_dt, h_i_me, h_i_st, h_i_up, h_i_gl, h_i_sw, h_i_rl, h_i_m0⟩ := Rel_iff.mp hR
  have hcd : (f_X6_isDone_j1_1 (ym_m_experiment M) 1) = wr13 (f_X5_period_x (yl_rpr T.2.1)) := cd_isDone il_1 (h_experiment.2.1)
  by_cases hc : (f_X5_period_x (yl_rpr T.2.1)) = 0
  · have hz : ¬ f_X6_can_j1_1 (f_X6_isDone_j1_1 (ym_m_experiment M) 1) = 0 := can_ok (by rw [hcd]; exact w13_0 hc)
    refine ⟨?_, fun _ => ?_, h_bs, h_a1, h_a2, h_b, h_deadTime, h_load, h_measure, h_before, h_low, h_high, h_setpoint, h_integral, h_guard, h_share, h_mode, h_hand, h_follows, h_hasMaster, h_isStarved, h_held, h_sum, h_lastError, h_lastRate, h_experiment, h_center, h_height, h_band, h_isUp, h_gone, h_risings, h_second, h_greatest, h_least, h_period, h_swing, h_gain, h_past, h_go, h_sched, h_i_lim, h_i_gb, h_i_md, h_i_dt, h_i_me, h_i_st, h_i_up, h_i_gl, h_i_sw, h_i_rl, h_i_m0⟩
    · show (f_X6_isDone_j1_1 (ym_m_experiment M) 1) = f_L_period_r (yl_rpr T.2.1)
      rw [hcd]; unfold f_L_period_r; rw [if_pos hc]; exact w13_0 hc
    · show (f_L_period_uo (yl_rpr T.2.1) (yl_rpe T.2.1) uo) (0 : Int32).toNatClampNeg = (f_X6_period_j1_1 (ym_m_experiment M) (ym_m_period M) 1).toInt64
      simp only [f_L_period_uo, f_X6_period_j1_1, if_pos hc, if_neg (show ¬ f_X6_isDone_r (ym_m_experiment M) 1 = 0 from hz)]
      rw [ul_eq]
      exact congrArg Int32.toInt64 (h_period.2.1).symm
  · have hz : f_X6_can_j1_1 (f_X6_isDone_j1_1 (ym_m_experiment M) 1) = 0 := can_no (by rw [hcd]; exact w13_n hc)
    refine ⟨?_, fun h => absurd h ?_, h_bs, h_a1, h_a2, h_b, h_deadTime, h_load, h_measure, h_before, h_low, h_high, h_setpoint, h_integral, h_guard, h_share, h_mode, h_hand, h_follows, h_hasMaster, h_isStarved, h_held, h_sum, h_lastError, h_lastRate, h_experiment, h_center, h_height, h_band, h_isUp, h_gone, h_risings, h_second, h_greatest, h_least, h_period, h_swing, h_gain, h_past, h_go, h_sched, h_i_lim, h_i_gb, h_i_md, h_i_dt, h_i_me, h_i_st, h_i_up, h_i_gl, h_i_sw, h_i_rl, h_i_m0⟩
    · show (f_X6_isDone_j1_1 (ym_m_experiment M) 1) = f_L_period_r (yl_rpr T.2.1)
      rw [hcd]; unfold f_L_period_r; rw [if_neg hc]
    · show ¬ f_L_period_r (yl_rpr T.2.1) = 0
      unfold f_L_period_r; rw [if_neg hc]; exact w13_n hc
set_option maxHeartbeats 1000000 in
theorem rel_period_2 (hR : Rel T bs M) (uo : Nat → Int64) : rm_thrown (um_period M 2 ) = lr_period T.2.2  ∧ (lr_period T.2.2  = 0 → lo_period T.2.2 uo  (0 : Int32).toNatClampNeg = (rm_period M 2 ).toInt64) ∧ Rel (T.1, T.2.1, (lu_period T.2.2 )) bs (um_period M 2 ) := by
  obtain ⟨h_bs, h_a1, h_a2, h_b, h_deadTime, h_load, h_measure, h_before, h_low, h_high, h_setpoint, h_integral, h_guard, h_share, h_mode, h_hand, h_follows, h_hasMaster, h_isStarved, h_held, h_sum, h_lastError, h_lastRate, h_experiment, h_center, h_height, h_band, h_isUp, h_gone, h_risings, h_second, h_greatest, h_least, h_period, h_swing, h_gain, h_past, h_go, h_sched, h_i_lim, h_i_gb, h_i_md, h_i_dt, h_i_me, h_i_st, h_i_up, h_i_gl, h_i_sw, h_i_rl, h_i_m0⟩ := Rel_iff.mp hR
  have hcd : (f_X6_isDone_j1_1 (ym_m_experiment M) 2) = wr13 (f_X5_period_x (yl_rpr T.2.2)) := cd_isDone il_2 (h_experiment.2.2)
  by_cases hc : (f_X5_period_x (yl_rpr T.2.2)) = 0
  · have hz : ¬ f_X6_can_j1_1 (f_X6_isDone_j1_1 (ym_m_experiment M) 2) = 0 := can_ok (by rw [hcd]; exact w13_0 hc)
    refine ⟨?_, fun _ => ?_, h_bs, h_a1, h_a2, h_b, h_deadTime, h_load, h_measure, h_before, h_low, h_high, h_setpoint, h_integral, h_guard, h_share, h_mode, h_hand, h_follows, h_hasMaster, h_isStarved, h_held, h_sum, h_lastError, h_lastRate, h_experiment, h_center, h_height, h_band, h_isUp, h_gone, h_risings, h_second, h_greatest, h_least, h_period, h_swing, h_gain, h_past, h_go, h_sched, h_i_lim, h_i_gb, h_i_md, h_i_dt, h_i_me, h_i_st, h_i_up, h_i_gl, h_i_sw, h_i_rl, h_i_m0⟩
    · show (f_X6_isDone_j1_1 (ym_m_experiment M) 2) = f_L_period_r (yl_rpr T.2.2)
      rw [hcd]; unfold f_L_period_r; rw [if_pos hc]; exact w13_0 hc
    · show (f_L_period_uo (yl_rpr T.2.2) (yl_rpe T.2.2) uo) (0 : Int32).toNatClampNeg = (f_X6_period_j1_1 (ym_m_experiment M) (ym_m_period M) 2).toInt64
      simp only [f_L_period_uo, f_X6_period_j1_1, if_pos hc, if_neg (show ¬ f_X6_isDone_r (ym_m_experiment M) 2 = 0 from hz)]
      rw [ul_eq]
      exact congrArg Int32.toInt64 (h_period.2.2).symm
  · have hz : f_X6_can_j1_1 (f_X6_isDone_j1_1 (ym_m_experiment M) 2) = 0 := can_no (by rw [hcd]; exact w13_n hc)
    refine ⟨?_, fun h => absurd h ?_, h_bs, h_a1, h_a2, h_b, h_deadTime, h_load, h_measure, h_before, h_low, h_high, h_setpoint, h_integral, h_guard, h_share, h_mode, h_hand, h_follows, h_hasMaster, h_isStarved, h_held, h_sum, h_lastError, h_lastRate, h_experiment, h_center, h_height, h_band, h_isUp, h_gone, h_risings, h_second, h_greatest, h_least, h_period, h_swing, h_gain, h_past, h_go, h_sched, h_i_lim, h_i_gb, h_i_md, h_i_dt, h_i_me, h_i_st, h_i_up, h_i_gl, h_i_sw, h_i_rl, h_i_m0⟩
    · show (f_X6_isDone_j1_1 (ym_m_experiment M) 2) = f_L_period_r (yl_rpr T.2.2)
      rw [hcd]; unfold f_L_period_r; rw [if_neg hc]
    · show ¬ f_L_period_r (yl_rpr T.2.2) = 0
      unfold f_L_period_r; rw [if_neg hc]; exact w13_n hc
theorem rel_period (hR : Rel T bs M) (lp : Int32) (uo : Nat → Int64) : rm_thrown (um_period M lp ) = ofL T lp (fun s => lr_period s ) 1 ∧ (ofL T lp (fun s => lr_period s ) 1 = 0 → (ofL T lp (fun s => lo_period s uo ) uo) (0 : Int32).toNatClampNeg = (rm_period M lp ).toInt64) ∧ Rel (onL T lp (fun s => lu_period s )) bs (um_period M lp ) := by
  by_cases h0 : lp = 0
  · subst h0
    rw [ofL_0, ofL_0, onL_0]
    exact rel_period_0 hR  uo
  by_cases h1 : lp = 1
  · subst h1
    rw [ofL_1, ofL_1, onL_1]
    exact rel_period_1 hR  uo
  by_cases h2 : lp = 2
  · subst h2
    rw [ofL_2, ofL_2, onL_2]
    exact rel_period_2 hR  uo
  rw [ofL_o T _ _ h0 h1 h2, ofL_o T _ _ h0 h1 h2, onL_o T _ h0 h1 h2]
  have hcd : (f_X6_isDone_j1_1 (ym_m_experiment M) lp) = 1 := by simp only [f_X6_isDone_j1_1, il_o h0 h1 h2]; rfl
  have hz : f_X6_can_j1_1 (f_X6_isDone_j1_1 (ym_m_experiment M) lp) = 0 := can_no (by rw [hcd]; decide)
  obtain ⟨h_bs, h_a1, h_a2, h_b, h_deadTime, h_load, h_measure, h_before, h_low, h_high, h_setpoint, h_integral, h_guard, h_share, h_mode, h_hand, h_follows, h_hasMaster, h_isStarved, h_held, h_sum, h_lastError, h_lastRate, h_experiment, h_center, h_height, h_band, h_isUp, h_gone, h_risings, h_second, h_greatest, h_least, h_period, h_swing, h_gain, h_past, h_go, h_sched, h_i_lim, h_i_gb, h_i_md, h_i_dt, h_i_me, h_i_st, h_i_up, h_i_gl, h_i_sw, h_i_rl, h_i_m0⟩ := Rel_iff.mp hR
  refine ⟨hcd, fun h => absurd h (by decide), h_bs, h_a1, h_a2, h_b, h_deadTime, h_load, h_measure, h_before, h_low, h_high, h_setpoint, h_integral, h_guard, h_share, h_mode, h_hand, h_follows, h_hasMaster, h_isStarved, h_held, h_sum, h_lastError, h_lastRate, h_experiment, h_center, h_height, h_band, h_isUp, h_gone, h_risings, h_second, h_greatest, h_least, h_period, h_swing, h_gain, h_past, h_go, h_sched, h_i_lim, h_i_gb, h_i_md, h_i_dt, h_i_me, h_i_st, h_i_up, h_i_gl, h_i_sw, h_i_rl, h_i_m0⟩
set_option maxHeartbeats 1000000 in
theorem rel_swing_0 (hR : Rel T bs M) (uo : Nat → Int64) : rm_thrown (um_swing M 0 ) = lr_swing T.1  ∧ (lr_swing T.1  = 0 → lo_swing T.1 uo  (0 : Int32).toNatClampNeg = (rm_swing M 0 )) ∧ Rel ((lu_swing T.1 ), T.2.1, T.2.2) bs (um_swing M 0 ) := by
  obtain ⟨h_bs, h_a1, h_a2, h_b, h_deadTime, h_load, h_measure, h_before, h_low, h_high, h_setpoint, h_integral, h_guard, h_share, h_mode, h_hand, h_follows, h_hasMaster, h_isStarved, h_held, h_sum, h_lastError, h_lastRate, h_experiment, h_center, h_height, h_band, h_isUp, h_gone, h_risings, h_second, h_greatest, h_least, h_period, h_swing, h_gain, h_past, h_go, h_sched, h_i_lim, h_i_gb, h_i_md, h_i_dt, h_i_me, h_i_st, h_i_up, h_i_gl, h_i_sw, h_i_rl, h_i_m0⟩ := Rel_iff.mp hR
  have hcd : (f_X6_isDone_j1_1 (ym_m_experiment M) 0) = wr13 (f_X5_swing_x (yl_rpr T.1)) := cd_isDone il_0 (h_experiment.1)
  by_cases hc : (f_X5_swing_x (yl_rpr T.1)) = 0
  · have hz : ¬ f_X6_can_j1_1 (f_X6_isDone_j1_1 (ym_m_experiment M) 0) = 0 := can_ok (by rw [hcd]; exact w13_0 hc)
    refine ⟨?_, fun _ => ?_, h_bs, h_a1, h_a2, h_b, h_deadTime, h_load, h_measure, h_before, h_low, h_high, h_setpoint, h_integral, h_guard, h_share, h_mode, h_hand, h_follows, h_hasMaster, h_isStarved, h_held, h_sum, h_lastError, h_lastRate, h_experiment, h_center, h_height, h_band, h_isUp, h_gone, h_risings, h_second, h_greatest, h_least, h_period, h_swing, h_gain, h_past, h_go, h_sched, h_i_lim, h_i_gb, h_i_md, h_i_dt, h_i_me, h_i_st, h_i_up, h_i_gl, h_i_sw, h_i_rl, h_i_m0⟩
    · show (f_X6_isDone_j1_1 (ym_m_experiment M) 0) = f_L_swing_r (yl_rpr T.1)
      rw [hcd]; unfold f_L_swing_r; rw [if_pos hc]; exact w13_0 hc
    · show (f_L_swing_uo (yl_rpr T.1) (yl_rsw T.1) uo) (0 : Int32).toNatClampNeg = (f_X6_swing_j1_1 (ym_m_experiment M) (ym_m_swing M) 0)
      simp only [f_L_swing_uo, f_X6_swing_j1_1, if_pos hc, if_neg (show ¬ f_X6_isDone_r (ym_m_experiment M) 0 = 0 from hz)]
      rw [ul_eq]
      exact (h_swing.1).symm
  · have hz : f_X6_can_j1_1 (f_X6_isDone_j1_1 (ym_m_experiment M) 0) = 0 := can_no (by rw [hcd]; exact w13_n hc)
    refine ⟨?_, fun h => absurd h ?_, h_bs, h_a1, h_a2, h_b, h_deadTime, h_load, h_measure, h_before, h_low, h_high, h_setpoint, h_integral, h_guard, h_share, h_mode, h_hand, h_follows, h_hasMaster, h_isStarved, h_held, h_sum, h_lastError, h_lastRate, h_experiment, h_center, h_height, h_band, h_isUp, h_gone, h_risings, h_second, h_greatest, h_least, h_period, h_swing, h_gain, h_past, h_go, h_sched, h_i_lim, h_i_gb, h_i_md, h_i_dt, h_i_me, h_i_st, h_i_up, h_i_gl, h_i_sw, h_i_rl, h_i_m0⟩
    · show (f_X6_isDone_j1_1 (ym_m_experiment M) 0) = f_L_swing_r (yl_rpr T.1)
      rw [hcd]; unfold f_L_swing_r; rw [if_neg hc]
    · show ¬ f_L_swing_r (yl_rpr T.1) = 0
      unfold f_L_swing_r; rw [if_neg hc]; exact w13_n hc
set_option maxHeartbeats 1000000 in
theorem rel_swing_1 (hR : Rel T bs M) (uo : Nat → Int64) : rm_thrown (um_swing M 1 ) = lr_swing T.2.1  ∧ (lr_swing T.2.1  = 0 → lo_swing T.2.1 uo  (0 : Int32).toNatClampNeg = (rm_swing M 1 )) ∧ Rel (T.1, (lu_swing T.2.1 ), T.2.2) bs (um_swing M 1 ) := by
  obtain ⟨h_bs, h_a1, h_a2, h_b, h_deadTime, h_load, h_measure, h_before, h_low, h_high, h_setpoint, h_integral, h_guard, h_share, h_mode, h_hand, h_follows, h_hasMaster, h_isStarved, h_held, h_sum, h_lastError, h_lastRate, h_experiment, h_center, h_height, h_band, h_isUp, h_gone, h_risings, h_second, h_greatest, h_least, h_period, h_swing, h_gain, h_past, h_go, h_sched, h_i_lim, h_i_gb, h_i_md, h_i_dt, h_i_me, h_i_st, h_i_up, h_i_gl, h_i_sw, h_i_rl, h_i_m0⟩ := Rel_iff.mp hR
  have hcd : (f_X6_isDone_j1_1 (ym_m_experiment M) 1) = wr13 (f_X5_swing_x (yl_rpr T.2.1)) := cd_isDone il_1 (h_experiment.2.1)
  by_cases hc : (f_X5_swing_x (yl_rpr T.2.1)) = 0
  · have hz : ¬ f_X6_can_j1_1 (f_X6_isDone_j1_1 (ym_m_experiment M) 1) = 0 := can_ok (by rw [hcd]; exact w13_0 hc)
    refine ⟨?_, fun _ => ?_, h_bs, h_a1, h_a2, h_b, h_deadTime, h_load, h_measure, h_before, h_low, h_high, h_setpoint, h_integral, h_guard, h_share, h_mode, h_hand, h_follows, h_hasMaster, h_isStarved, h_held, h_sum, h_lastError, h_lastRate, h_experiment, h_center, h_height, h_band, h_isUp, h_gone, h_risings, h_second, h_greatest, h_least, h_period, h_swing, h_gain, h_past, h_go, h_sched, h_i_lim, h_i_gb, h_i_md, h_i_dt, h_i_me, h_i_st, h_i_up, h_i_gl, h_i_sw, h_i_rl, h_i_m0⟩
    · show (f_X6_isDone_j1_1 (ym_m_experiment M) 1) = f_L_swing_r (yl_rpr T.2.1)
      rw [hcd]; unfold f_L_swing_r; rw [if_pos hc]; exact w13_0 hc
    · show (f_L_swing_uo (yl_rpr T.2.1) (yl_rsw T.2.1) uo) (0 : Int32).toNatClampNeg = (f_X6_swing_j1_1 (ym_m_experiment M) (ym_m_swing M) 1)
      simp only [f_L_swing_uo, f_X6_swing_j1_1, if_pos hc, if_neg (show ¬ f_X6_isDone_r (ym_m_experiment M) 1 = 0 from hz)]
      rw [ul_eq]
      exact (h_swing.2.1).symm
  · have hz : f_X6_can_j1_1 (f_X6_isDone_j1_1 (ym_m_experiment M) 1) = 0 := can_no (by rw [hcd]; exact w13_n hc)
    refine ⟨?_, fun h => absurd h ?_, h_bs, h_a1, h_a2, h_b, h_deadTime, h_load, h_measure, h_before, h_low, h_high, h_setpoint, h_integral, h_guard, h_share, h_mode, h_hand, h_follows, h_hasMaster, h_isStarved, h_held, h_sum, h_lastError, h_lastRate, h_experiment, h_center, h_height, h_band, h_isUp, h_gone, h_risings, h_second, h_greatest, h_least, h_period, h_swing, h_gain, h_past, h_go, h_sched, h_i_lim, h_i_gb, h_i_md, h_i_dt, h_i_me, h_i_st, h_i_up, h_i_gl, h_i_sw, h_i_rl, h_i_m0⟩
    · show (f_X6_isDone_j1_1 (ym_m_experiment M) 1) = f_L_swing_r (yl_rpr T.2.1)
      rw [hcd]; unfold f_L_swing_r; rw [if_neg hc]
    · show ¬ f_L_swing_r (yl_rpr T.2.1) = 0
      unfold f_L_swing_r; rw [if_neg hc]; exact w13_n hc
set_option maxHeartbeats 1000000 in
theorem rel_swing_2 (hR : Rel T bs M) (uo : Nat → Int64) : rm_thrown (um_swing M 2 ) = lr_swing T.2.2  ∧ (lr_swing T.2.2  = 0 → lo_swing T.2.2 uo  (0 : Int32).toNatClampNeg = (rm_swing M 2 )) ∧ Rel (T.1, T.2.1, (lu_swing T.2.2 )) bs (um_swing M 2 ) := by
  obtain ⟨h_bs, h_a1, h_a2, h_b, h_deadTime, h_load, h_measure, h_before, h_low, h_high, h_setpoint, h_integral, h_guard, h_share, h_mode, h_hand, h_follows, h_hasMaster, h_isStarved, h_held, h_sum, h_lastError, h_lastRate, h_experiment, h_center, h_height, h_band, h_isUp, h_gone, h_risings, h_second, h_greatest, h_least, h_period, h_swing, h_gain, h_past, h_go, h_sched, h_i_lim, h_i_gb, h_i_md, h_i_dt, h_i_me, h_i_st, h_i_up, h_i_gl, h_i_sw, h_i_rl, h_i_m0⟩ := Rel_iff.mp hR
  have hcd : (f_X6_isDone_j1_1 (ym_m_experiment M) 2) = wr13 (f_X5_swing_x (yl_rpr T.2.2)) := cd_isDone il_2 (h_experiment.2.2)
  by_cases hc : (f_X5_swing_x (yl_rpr T.2.2)) = 0
  · have hz : ¬ f_X6_can_j1_1 (f_X6_isDone_j1_1 (ym_m_experiment M) 2) = 0 := can_ok (by rw [hcd]; exact w13_0 hc)
    refine ⟨?_, fun _ => ?_, h_bs, h_a1, h_a2, h_b, h_deadTime, h_load, h_measure, h_before, h_low, h_high, h_setpoint, h_integral, h_guard, h_share, h_mode, h_hand, h_follows, h_hasMaster, h_isStarved, h_held, h_sum, h_lastError, h_lastRate, h_experiment, h_center, h_height, h_band, h_isUp, h_gone, h_risings, h_second, h_greatest, h_least, h_period, h_swing, h_gain, h_past, h_go, h_sched, h_i_lim, h_i_gb, h_i_md, h_i_dt, h_i_me, h_i_st, h_i_up, h_i_gl, h_i_sw, h_i_rl, h_i_m0⟩
    · show (f_X6_isDone_j1_1 (ym_m_experiment M) 2) = f_L_swing_r (yl_rpr T.2.2)
      rw [hcd]; unfold f_L_swing_r; rw [if_pos hc]; exact w13_0 hc
    · show (f_L_swing_uo (yl_rpr T.2.2) (yl_rsw T.2.2) uo) (0 : Int32).toNatClampNeg = (f_X6_swing_j1_1 (ym_m_experiment M) (ym_m_swing M) 2)
      simp only [f_L_swing_uo, f_X6_swing_j1_1, if_pos hc, if_neg (show ¬ f_X6_isDone_r (ym_m_experiment M) 2 = 0 from hz)]
      rw [ul_eq]
      exact (h_swing.2.2).symm
  · have hz : f_X6_can_j1_1 (f_X6_isDone_j1_1 (ym_m_experiment M) 2) = 0 := can_no (by rw [hcd]; exact w13_n hc)
    refine ⟨?_, fun h => absurd h ?_, h_bs, h_a1, h_a2, h_b, h_deadTime, h_load, h_measure, h_before, h_low, h_high, h_setpoint, h_integral, h_guard, h_share, h_mode, h_hand, h_follows, h_hasMaster, h_isStarved, h_held, h_sum, h_lastError, h_lastRate, h_experiment, h_center, h_height, h_band, h_isUp, h_gone, h_risings, h_second, h_greatest, h_least, h_period, h_swing, h_gain, h_past, h_go, h_sched, h_i_lim, h_i_gb, h_i_md, h_i_dt, h_i_me, h_i_st, h_i_up, h_i_gl, h_i_sw, h_i_rl, h_i_m0⟩
    · show (f_X6_isDone_j1_1 (ym_m_experiment M) 2) = f_L_swing_r (yl_rpr T.2.2)
      rw [hcd]; unfold f_L_swing_r; rw [if_neg hc]
    · show ¬ f_L_swing_r (yl_rpr T.2.2) = 0
      unfold f_L_swing_r; rw [if_neg hc]; exact w13_n hc
theorem rel_swing (hR : Rel T bs M) (lp : Int32) (uo : Nat → Int64) : rm_thrown (um_swing M lp ) = ofL T lp (fun s => lr_swing s ) 1 ∧ (ofL T lp (fun s => lr_swing s ) 1 = 0 → (ofL T lp (fun s => lo_swing s uo ) uo) (0 : Int32).toNatClampNeg = (rm_swing M lp )) ∧ Rel (onL T lp (fun s => lu_swing s )) bs (um_swing M lp ) := by
  by_cases h0 : lp = 0
  · subst h0
    rw [ofL_0, ofL_0, onL_0]
    exact rel_swing_0 hR  uo
  by_cases h1 : lp = 1
  · subst h1
    rw [ofL_1, ofL_1, onL_1]
    exact rel_swing_1 hR  uo
  by_cases h2 : lp = 2
  · subst h2
    rw [ofL_2, ofL_2, onL_2]
    exact rel_swing_2 hR  uo
  rw [ofL_o T _ _ h0 h1 h2, ofL_o T _ _ h0 h1 h2, onL_o T _ h0 h1 h2]
  have hcd : (f_X6_isDone_j1_1 (ym_m_experiment M) lp) = 1 := by simp only [f_X6_isDone_j1_1, il_o h0 h1 h2]; rfl
  have hz : f_X6_can_j1_1 (f_X6_isDone_j1_1 (ym_m_experiment M) lp) = 0 := can_no (by rw [hcd]; decide)
  obtain ⟨h_bs, h_a1, h_a2, h_b, h_deadTime, h_load, h_measure, h_before, h_low, h_high, h_setpoint, h_integral, h_guard, h_share, h_mode, h_hand, h_follows, h_hasMaster, h_isStarved, h_held, h_sum, h_lastError, h_lastRate, h_experiment, h_center, h_height, h_band, h_isUp, h_gone, h_risings, h_second, h_greatest, h_least, h_period, h_swing, h_gain, h_past, h_go, h_sched, h_i_lim, h_i_gb, h_i_md, h_i_dt, h_i_me, h_i_st, h_i_up, h_i_gl, h_i_sw, h_i_rl, h_i_m0⟩ := Rel_iff.mp hR
  refine ⟨hcd, fun h => absurd h (by decide), h_bs, h_a1, h_a2, h_b, h_deadTime, h_load, h_measure, h_before, h_low, h_high, h_setpoint, h_integral, h_guard, h_share, h_mode, h_hand, h_follows, h_hasMaster, h_isStarved, h_held, h_sum, h_lastError, h_lastRate, h_experiment, h_center, h_height, h_band, h_isUp, h_gone, h_risings, h_second, h_greatest, h_least, h_period, h_swing, h_gain, h_past, h_go, h_sched, h_i_lim, h_i_gb, h_i_md, h_i_dt, h_i_me, h_i_st, h_i_up, h_i_gl, h_i_sw, h_i_rl, h_i_m0⟩
set_option maxHeartbeats 1000000 in
theorem rel_ultimateGain_0 (hR : Rel T bs M) (uo : Nat → Int64) : rm_thrown (um_ultimateGain M 0 ) = lr_ultimateGain T.1  ∧ (lr_ultimateGain T.1  = 0 → lo_ultimateGain T.1 uo  (0 : Int32).toNatClampNeg = (rm_ultimateGain M 0 ).toInt64) ∧ Rel ((lu_ultimateGain T.1 ), T.2.1, T.2.2) bs (um_ultimateGain M 0 ) := by
  obtain ⟨h_bs, h_a1, h_a2, h_b, h_deadTime, h_load, h_measure, h_before, h_low, h_high, h_setpoint, h_integral, h_guard, h_share, h_mode, h_hand, h_follows, h_hasMaster, h_isStarved, h_held, h_sum, h_lastError, h_lastRate, h_experiment, h_center, h_height, h_band, h_isUp, h_gone, h_risings, h_second, h_greatest, h_least, h_period, h_swing, h_gain, h_past, h_go, h_sched, h_i_lim, h_i_gb, h_i_md, h_i_dt, h_i_me, h_i_st, h_i_up, h_i_gl, h_i_sw, h_i_rl, h_i_m0⟩ := Rel_iff.mp hR
  have hcd : (f_X6_ultimateGain_j1_1 (ym_m_experiment M) (ym_m_swing M) 0) = wr13 (f_X5_ultimateGain_x (yl_rpr T.1) (yl_rsw T.1)) := cd_ultimateGain il_0 (h_experiment.1) (h_swing.1) (h_i_sw.1).1
  by_cases hc : (f_X5_ultimateGain_x (yl_rpr T.1) (yl_rsw T.1)) = 0
  · have hz : ¬ f_X6_can_j1_1 (f_X6_ultimateGain_j1_1 (ym_m_experiment M) (ym_m_swing M) 0) = 0 := can_ok (by rw [hcd]; exact w13_0 hc)
    refine ⟨?_, fun _ => ?_, h_bs, h_a1, h_a2, h_b, h_deadTime, h_load, h_measure, h_before, h_low, h_high, h_setpoint, h_integral, h_guard, h_share, h_mode, h_hand, h_follows, h_hasMaster, h_isStarved, h_held, h_sum, h_lastError, h_lastRate, h_experiment, h_center, h_height, h_band, h_isUp, h_gone, h_risings, h_second, h_greatest, h_least, h_period, h_swing, h_gain, h_past, h_go, h_sched, h_i_lim, h_i_gb, h_i_md, h_i_dt, h_i_me, h_i_st, h_i_up, h_i_gl, h_i_sw, h_i_rl, h_i_m0⟩
    · show (f_X6_ultimateGain_j1_1 (ym_m_experiment M) (ym_m_swing M) 0) = f_L_ultimateGain_r (yl_rpr T.1) (yl_rsw T.1)
      rw [hcd]; unfold f_L_ultimateGain_r; rw [if_pos hc]; exact w13_0 hc
    · show (f_L_ultimateGain_uo (yl_rpr T.1) (yl_rsw T.1) (yl_rhe T.1) uo) (0 : Int32).toNatClampNeg = (f_X6_ultimateGain_j2_1 (ym_m_experiment M) (ym_m_height M) (ym_m_swing M) 0).toInt64
      simp only [f_L_ultimateGain_uo, f_X6_ultimateGain_j2_1, if_pos hc, if_neg hz]
      rw [ul_eq]
      exact ug_eq (h_height.1) (h_swing.1) (h_i_sw.1) hc
  · have hz : f_X6_can_j1_1 (f_X6_ultimateGain_j1_1 (ym_m_experiment M) (ym_m_swing M) 0) = 0 := can_no (by rw [hcd]; exact w13_n hc)
    refine ⟨?_, fun h => absurd h ?_, h_bs, h_a1, h_a2, h_b, h_deadTime, h_load, h_measure, h_before, h_low, h_high, h_setpoint, h_integral, h_guard, h_share, h_mode, h_hand, h_follows, h_hasMaster, h_isStarved, h_held, h_sum, h_lastError, h_lastRate, h_experiment, h_center, h_height, h_band, h_isUp, h_gone, h_risings, h_second, h_greatest, h_least, h_period, h_swing, h_gain, h_past, h_go, h_sched, h_i_lim, h_i_gb, h_i_md, h_i_dt, h_i_me, h_i_st, h_i_up, h_i_gl, h_i_sw, h_i_rl, h_i_m0⟩
    · show (f_X6_ultimateGain_j1_1 (ym_m_experiment M) (ym_m_swing M) 0) = f_L_ultimateGain_r (yl_rpr T.1) (yl_rsw T.1)
      rw [hcd]; unfold f_L_ultimateGain_r; rw [if_neg hc]
    · show ¬ f_L_ultimateGain_r (yl_rpr T.1) (yl_rsw T.1) = 0
      unfold f_L_ultimateGain_r; rw [if_neg hc]; exact w13_n hc
set_option maxHeartbeats 1000000 in
theorem rel_ultimateGain_1 (hR : Rel T bs M) (uo : Nat → Int64) : rm_thrown (um_ultimateGain M 1 ) = lr_ultimateGain T.2.1  ∧ (lr_ultimateGain T.2.1  = 0 → lo_ultimateGain T.2.1 uo  (0 : Int32).toNatClampNeg = (rm_ultimateGain M 1 ).toInt64) ∧ Rel (T.1, (lu_ultimateGain T.2.1 ), T.2.2) bs (um_ultimateGain M 1 ) := by
  obtain ⟨h_bs, h_a1, h_a2, h_b, h_deadTime, h_load, h_measure, h_before, h_low, h_high, h_setpoint, h_integral, h_guard, h_share, h_mode, h_hand, h_follows, h_hasMaster, h_isStarved, h_held, h_sum, h_lastError, h_lastRate, h_experiment, h_center, h_height, h_band, h_isUp, h_gone, h_risings, h_second, h_greatest, h_least, h_period, h_swing, h_gain, h_past, h_go, h_sched, h_i_lim, h_i_gb, h_i_md, h_i_dt, h_i_me, h_i_st, h_i_up, h_i_gl, h_i_sw, h_i_rl, h_i_m0⟩ := Rel_iff.mp hR
  have hcd : (f_X6_ultimateGain_j1_1 (ym_m_experiment M) (ym_m_swing M) 1) = wr13 (f_X5_ultimateGain_x (yl_rpr T.2.1) (yl_rsw T.2.1)) := cd_ultimateGain il_1 (h_experiment.2.1) (h_swing.2.1) (h_i_sw.2.1).1
  by_cases hc : (f_X5_ultimateGain_x (yl_rpr T.2.1) (yl_rsw T.2.1)) = 0
  · have hz : ¬ f_X6_can_j1_1 (f_X6_ultimateGain_j1_1 (ym_m_experiment M) (ym_m_swing M) 1) = 0 := can_ok (by rw [hcd]; exact w13_0 hc)
    refine ⟨?_, fun _ => ?_, h_bs, h_a1, h_a2, h_b, h_deadTime, h_load, h_measure, h_before, h_low, h_high, h_setpoint, h_integral, h_guard, h_share, h_mode, h_hand, h_follows, h_hasMaster, h_isStarved, h_held, h_sum, h_lastError, h_lastRate, h_experiment, h_center, h_height, h_band, h_isUp, h_gone, h_risings, h_second, h_greatest, h_least, h_period, h_swing, h_gain, h_past, h_go, h_sched, h_i_lim, h_i_gb, h_i_md, h_i_dt, h_i_me, h_i_st, h_i_up, h_i_gl, h_i_sw, h_i_rl, h_i_m0⟩
    · show (f_X6_ultimateGain_j1_1 (ym_m_experiment M) (ym_m_swing M) 1) = f_L_ultimateGain_r (yl_rpr T.2.1) (yl_rsw T.2.1)
      rw [hcd]; unfold f_L_ultimateGain_r; rw [if_pos hc]; exact w13_0 hc
    · show (f_L_ultimateGain_uo (yl_rpr T.2.1) (yl_rsw T.2.1) (yl_rhe T.2.1) uo) (0 : Int32).toNatClampNeg = (f_X6_ultimateGain_j2_1 (ym_m_experiment M) (ym_m_height M) (ym_m_swing M) 1).toInt64
      simp only [f_L_ultimateGain_uo, f_X6_ultimateGain_j2_1, if_pos hc, if_neg hz]
      rw [ul_eq]
      exact ug_eq (h_height.2.1) (h_swing.2.1) (h_i_sw.2.1) hc
  · have hz : f_X6_can_j1_1 (f_X6_ultimateGain_j1_1 (ym_m_experiment M) (ym_m_swing M) 1) = 0 := can_no (by rw [hcd]; exact w13_n hc)
    refine ⟨?_, fun h => absurd h ?_, h_bs, h_a1, h_a2, h_b, h_deadTime, h_load, h_measure, h_before, h_low, h_high, h_setpoint, h_integral, h_guard, h_share, h_mode, h_hand, h_follows, h_hasMaster, h_isStarved, h_held, h_sum, h_lastError, h_lastRate, h_experiment, h_center, h_height, h_band, h_isUp, h_gone, h_risings, h_second, h_greatest, h_least, h_period, h_swing, h_gain, h_past, h_go, h_sched, h_i_lim, h_i_gb, h_i_md, h_i_dt, h_i_me, h_i_st, h_i_up, h_i_gl, h_i_sw, h_i_rl, h_i_m0⟩
    · show (f_X6_ultimateGain_j1_1 (ym_m_experiment M) (ym_m_swing M) 1) = f_L_ultimateGain_r (yl_rpr T.2.1) (yl_rsw T.2.1)
      rw [hcd]; unfold f_L_ultimateGain_r; rw [if_neg hc]
    · show ¬ f_L_ultimateGain_r (yl_rpr T.2.1) (yl_rsw T.2.1) = 0
      unfold f_L_ultimateGain_r; rw [if_neg hc]; exact w13_n hc
set_option maxHeartbeats 1000000 in
theorem rel_ultimateGain_2 (hR : Rel T bs M) (uo : Nat → Int64) : rm_thrown (um_ultimateGain M 2 ) = lr_ultimateGain T.2.2  ∧ (lr_ultimateGain T.2.2  = 0 → lo_ultimateGain T.2.2 uo  (0 : Int32).toNatClampNeg = (rm_ultimateGain M 2 ).toInt64) ∧ Rel (T.1, T.2.1, (lu_ultimateGain T.2.2 )) bs (um_ultimateGain M 2 ) := by
  obtain ⟨h_bs, h_a1, h_a2, h_b, h_deadTime, h_load, h_measure, h_before, h_low, h_high, h_setpoint, h_integral, h_guard, h_share, h_mode, h_hand, h_follows, h_hasMaster, h_isStarved, h_held, h_sum, h_lastError, h_lastRate, h_experiment, h_center, h_height, h_band, h_isUp, h_gone, h_risings, h_second, h_greatest, h_least, h_period, h_swing, h_gain, h_past, h_go, h_sched, h_i_lim, h_i_gb, h_i_md, h_i_dt, h_i_me, h_i_st, h_i_up, h_i_gl, h_i_sw, h_i_rl, h_i_m0⟩ := Rel_iff.mp hR
  have hcd : (f_X6_ultimateGain_j1_1 (ym_m_experiment M) (ym_m_swing M) 2) = wr13 (f_X5_ultimateGain_x (yl_rpr T.2.2) (yl_rsw T.2.2)) := cd_ultimateGain il_2 (h_experiment.2.2) (h_swing.2.2) (h_i_sw.2.2).1
  by_cases hc : (f_X5_ultimateGain_x (yl_rpr T.2.2) (yl_rsw T.2.2)) = 0
  · have hz : ¬ f_X6_can_j1_1 (f_X6_ultimateGain_j1_1 (ym_m_experiment M) (ym_m_swing M) 2) = 0 := can_ok (by rw [hcd]; exact w13_0 hc)
    refine ⟨?_, fun _ => ?_, h_bs, h_a1, h_a2, h_b, h_deadTime, h_load, h_measure, h_before, h_low, h_high, h_setpoint, h_integral, h_guard, h_share, h_mode, h_hand, h_follows, h_hasMaster, h_isStarved, h_held, h_sum, h_lastError, h_lastRate, h_experiment, h_center, h_height, h_band, h_isUp, h_gone, h_risings, h_second, h_greatest, h_least, h_period, h_swing, h_gain, h_past, h_go, h_sched, h_i_lim, h_i_gb, h_i_md, h_i_dt, h_i_me, h_i_st, h_i_up, h_i_gl, h_i_sw, h_i_rl, h_i_m0⟩
    · show (f_X6_ultimateGain_j1_1 (ym_m_experiment M) (ym_m_swing M) 2) = f_L_ultimateGain_r (yl_rpr T.2.2) (yl_rsw T.2.2)
      rw [hcd]; unfold f_L_ultimateGain_r; rw [if_pos hc]; exact w13_0 hc
    · show (f_L_ultimateGain_uo (yl_rpr T.2.2) (yl_rsw T.2.2) (yl_rhe T.2.2) uo) (0 : Int32).toNatClampNeg = (f_X6_ultimateGain_j2_1 (ym_m_experiment M) (ym_m_height M) (ym_m_swing M) 2).toInt64
      simp only [f_L_ultimateGain_uo, f_X6_ultimateGain_j2_1, if_pos hc, if_neg hz]
      rw [ul_eq]
      exact ug_eq (h_height.2.2) (h_swing.2.2) (h_i_sw.2.2) hc
  · have hz : f_X6_can_j1_1 (f_X6_ultimateGain_j1_1 (ym_m_experiment M) (ym_m_swing M) 2) = 0 := can_no (by rw [hcd]; exact w13_n hc)
    refine ⟨?_, fun h => absurd h ?_, h_bs, h_a1, h_a2, h_b, h_deadTime, h_load, h_measure, h_before, h_low, h_high, h_setpoint, h_integral, h_guard, h_share, h_mode, h_hand, h_follows, h_hasMaster, h_isStarved, h_held, h_sum, h_lastError, h_lastRate, h_experiment, h_center, h_height, h_band, h_isUp, h_gone, h_risings, h_second, h_greatest, h_least, h_period, h_swing, h_gain, h_past, h_go, h_sched, h_i_lim, h_i_gb, h_i_md, h_i_dt, h_i_me, h_i_st, h_i_up, h_i_gl, h_i_sw, h_i_rl, h_i_m0⟩
    · show (f_X6_ultimateGain_j1_1 (ym_m_experiment M) (ym_m_swing M) 2) = f_L_ultimateGain_r (yl_rpr T.2.2) (yl_rsw T.2.2)
      rw [hcd]; unfold f_L_ultimateGain_r; rw [if_neg hc]
    · show ¬ f_L_ultimateGain_r (yl_rpr T.2.2) (yl_rsw T.2.2) = 0
      unfold f_L_ultimateGain_r; rw [if_neg hc]; exact w13_n hc
theorem rel_ultimateGain (hR : Rel T bs M) (lp : Int32) (uo : Nat → Int64) : rm_thrown (um_ultimateGain M lp ) = ofL T lp (fun s => lr_ultimateGain s ) 1 ∧ (ofL T lp (fun s => lr_ultimateGain s ) 1 = 0 → (ofL T lp (fun s => lo_ultimateGain s uo ) uo) (0 : Int32).toNatClampNeg = (rm_ultimateGain M lp ).toInt64) ∧ Rel (onL T lp (fun s => lu_ultimateGain s )) bs (um_ultimateGain M lp ) := by
  by_cases h0 : lp = 0
  · subst h0
    rw [ofL_0, ofL_0, onL_0]
    exact rel_ultimateGain_0 hR  uo
  by_cases h1 : lp = 1
  · subst h1
    rw [ofL_1, ofL_1, onL_1]
    exact rel_ultimateGain_1 hR  uo
  by_cases h2 : lp = 2
  · subst h2
    rw [ofL_2, ofL_2, onL_2]
    exact rel_ultimateGain_2 hR  uo
  rw [ofL_o T _ _ h0 h1 h2, ofL_o T _ _ h0 h1 h2, onL_o T _ h0 h1 h2]
  have hcd : (f_X6_ultimateGain_j1_1 (ym_m_experiment M) (ym_m_swing M) lp) = 1 := by simp only [f_X6_ultimateGain_j1_1, il_o h0 h1 h2]; rfl
  have hz : f_X6_can_j1_1 (f_X6_ultimateGain_j1_1 (ym_m_experiment M) (ym_m_swing M) lp) = 0 := can_no (by rw [hcd]; decide)
  obtain ⟨h_bs, h_a1, h_a2, h_b, h_deadTime, h_load, h_measure, h_before, h_low, h_high, h_setpoint, h_integral, h_guard, h_share, h_mode, h_hand, h_follows, h_hasMaster, h_isStarved, h_held, h_sum, h_lastError, h_lastRate, h_experiment, h_center, h_height, h_band, h_isUp, h_gone, h_risings, h_second, h_greatest, h_least, h_period, h_swing, h_gain, h_past, h_go, h_sched, h_i_lim, h_i_gb, h_i_md, h_i_dt, h_i_me, h_i_st, h_i_up, h_i_gl, h_i_sw, h_i_rl, h_i_m0⟩ := Rel_iff.mp hR
  refine ⟨hcd, fun h => absurd h (by decide), h_bs, h_a1, h_a2, h_b, h_deadTime, h_load, h_measure, h_before, h_low, h_high, h_setpoint, h_integral, h_guard, h_share, h_mode, h_hand, h_follows, h_hasMaster, h_isStarved, h_held, h_sum, h_lastError, h_lastRate, h_experiment, h_center, h_height, h_band, h_isUp, h_gone, h_risings, h_second, h_greatest, h_least, h_period, h_swing, h_gain, h_past, h_go, h_sched, h_i_lim, h_i_gb, h_i_md, h_i_dt, h_i_me, h_i_st, h_i_up, h_i_gl, h_i_sw, h_i_rl, h_i_m0⟩
set_option maxHeartbeats 1000000 in
theorem rel_proposed_0 (hR : Rel T bs M) (ruv : Int32) (wh : Int32) (uo : Nat → Int64) : rm_thrown (um_proposed M 0 ruv wh) = lr_proposed T.1 ruv wh ∧ (lr_proposed T.1 ruv wh = 0 → lo_proposed T.1 uo ruv wh (0 : Int32).toNatClampNeg = (rm_proposed M 0 ruv wh).toInt64) ∧ Rel ((lu_proposed T.1 ruv wh), T.2.1, T.2.2) bs (um_proposed M 0 ruv wh) := by
  obtain ⟨h_bs, h_a1, h_a2, h_b, h_deadTime, h_load, h_measure, h_before, h_low, h_high, h_setpoint, h_integral, h_guard, h_share, h_mode, h_hand, h_follows, h_hasMaster, h_isStarved, h_held, h_sum, h_lastError, h_lastRate, h_experiment, h_center, h_height, h_band, h_isUp, h_gone, h_risings, h_second, h_greatest, h_least, h_period, h_swing, h_gain, h_past, h_go, h_sched, h_i_lim, h_i_gb, h_i_md, h_i_dt, h_i_me, h_i_st, h_i_up, h_i_gl, h_i_sw, h_i_rl, h_i_m0⟩ := Rel_iff.mp hR
  have hcd : (f_X6_proposed_j1_1 (ym_m_experiment M) (ym_m_period M) (ym_m_swing M) 0 ruv wh) = wr123 (f_X5_proposed_x (yl_rpr T.1) (yl_rpe T.1) (yl_rsw T.1) ruv wh) := cd_proposed il_0 (h_experiment.1) (h_period.1) (h_swing.1) (h_i_sw.1).1 (h_i_sw.1).2.2.1
  by_cases hc : (f_X5_proposed_x (yl_rpr T.1) (yl_rpe T.1) (yl_rsw T.1) ruv wh) = 0
  · have hz : ¬ f_X6_can_j1_1 (f_X6_proposed_j1_1 (ym_m_experiment M) (ym_m_period M) (ym_m_swing M) 0 ruv wh) = 0 := can_ok (by rw [hcd]; exact w123_0 hc)
    refine ⟨?_, fun _ => ?_, h_bs, h_a1, h_a2, h_b, h_deadTime, h_load, h_measure, h_before, h_low, h_high, h_setpoint, h_integral, h_guard, h_share, h_mode, h_hand, h_follows, h_hasMaster, h_isStarved, h_held, h_sum, h_lastError, h_lastRate, h_experiment, h_center, h_height, h_band, h_isUp, h_gone, h_risings, h_second, h_greatest, h_least, h_period, h_swing, h_gain, h_past, h_go, h_sched, h_i_lim, h_i_gb, h_i_md, h_i_dt, h_i_me, h_i_st, h_i_up, h_i_gl, h_i_sw, h_i_rl, h_i_m0⟩
    · show (f_X6_proposed_j1_1 (ym_m_experiment M) (ym_m_period M) (ym_m_swing M) 0 ruv wh) = f_L_proposed_r (yl_rpr T.1) (yl_rpe T.1) (yl_rsw T.1) ruv wh
      rw [hcd]; unfold f_L_proposed_r; rw [if_pos hc]; exact w123_0 hc
    · show (f_L_proposed_uo (yl_rpr T.1) (yl_rpe T.1) (yl_rsw T.1) (yl_rhe T.1) uo ruv wh) (0 : Int32).toNatClampNeg = (f_X6_proposed_r (ym_m_experiment M) (ym_m_height M) (ym_m_period M) (ym_m_swing M) 0 ruv wh).toInt64
      simp only [f_L_proposed_uo, f_X6_proposed_r, if_pos hc, if_neg hz]
      rw [ul_eq]
      exact pr_eq (h_height.1) (h_period.1) (h_swing.1) (h_i_sw.1) hc
  · have hz : f_X6_can_j1_1 (f_X6_proposed_j1_1 (ym_m_experiment M) (ym_m_period M) (ym_m_swing M) 0 ruv wh) = 0 := can_no (by rw [hcd]; exact w123_n hc)
    refine ⟨?_, fun h => absurd h ?_, h_bs, h_a1, h_a2, h_b, h_deadTime, h_load, h_measure, h_before, h_low, h_high, h_setpoint, h_integral, h_guard, h_share, h_mode, h_hand, h_follows, h_hasMaster, h_isStarved, h_held, h_sum, h_lastError, h_lastRate, h_experiment, h_center, h_height, h_band, h_isUp, h_gone, h_risings, h_second, h_greatest, h_least, h_period, h_swing, h_gain, h_past, h_go, h_sched, h_i_lim, h_i_gb, h_i_md, h_i_dt, h_i_me, h_i_st, h_i_up, h_i_gl, h_i_sw, h_i_rl, h_i_m0⟩
    · show (f_X6_proposed_j1_1 (ym_m_experiment M) (ym_m_period M) (ym_m_swing M) 0 ruv wh) = f_L_proposed_r (yl_rpr T.1) (yl_rpe T.1) (yl_rsw T.1) ruv wh
      rw [hcd]; unfold f_L_proposed_r; rw [if_neg hc]
    · show ¬ f_L_proposed_r (yl_rpr T.1) (yl_rpe T.1) (yl_rsw T.1) ruv wh = 0
      unfold f_L_proposed_r; rw [if_neg hc]; exact w123_n hc
set_option maxHeartbeats 1000000 in
theorem rel_proposed_1 (hR : Rel T bs M) (ruv : Int32) (wh : Int32) (uo : Nat → Int64) : rm_thrown (um_proposed M 1 ruv wh) = lr_proposed T.2.1 ruv wh ∧ (lr_proposed T.2.1 ruv wh = 0 → lo_proposed T.2.1 uo ruv wh (0 : Int32).toNatClampNeg = (rm_proposed M 1 ruv wh).toInt64) ∧ Rel (T.1, (lu_proposed T.2.1 ruv wh), T.2.2) bs (um_proposed M 1 ruv wh) := by
  obtain ⟨h_bs, h_a1, h_a2, h_b, h_deadTime, h_load, h_measure, h_before, h_low, h_high, h_setpoint, h_integral, h_guard, h_share, h_mode, h_hand, h_follows, h_hasMaster, h_isStarved, h_held, h_sum, h_lastError, h_lastRate, h_experiment, h_center, h_height, h_band, h_isUp, h_gone, h_risings, h_second, h_greatest, h_least, h_period, h_swing, h_gain, h_past, h_go, h_sched, h_i_lim, h_i_gb, h_i_md, h_i_dt, h_i_me, h_i_st, h_i_up, h_i_gl, h_i_sw, h_i_rl, h_i_m0⟩ := Rel_iff.mp hR
  have hcd : (f_X6_proposed_j1_1 (ym_m_experiment M) (ym_m_period M) (ym_m_swing M) 1 ruv wh) = wr123 (f_X5_proposed_x (yl_rpr T.2.1) (yl_rpe T.2.1) (yl_rsw T.2.1) ruv wh) := cd_proposed il_1 (h_experiment.2.1) (h_period.2.1) (h_swing.2.1) (h_i_sw.2.1).1 (h_i_sw.2.1).2.2.1
  by_cases hc : (f_X5_proposed_x (yl_rpr T.2.1) (yl_rpe T.2.1) (yl_rsw T.2.1) ruv wh) = 0
  · have hz : ¬ f_X6_can_j1_1 (f_X6_proposed_j1_1 (ym_m_experiment M) (ym_m_period M) (ym_m_swing M) 1 ruv wh) = 0 := can_ok (by rw [hcd]; exact w123_0 hc)
    refine ⟨?_, fun _ => ?_, h_bs, h_a1, h_a2, h_b, h_deadTime, h_load, h_measure, h_before, h_low, h_high, h_setpoint, h_integral, h_guard, h_share, h_mode, h_hand, h_follows, h_hasMaster, h_isStarved, h_held, h_sum, h_lastError, h_lastRate, h_experiment, h_center, h_height, h_band, h_isUp, h_gone, h_risings, h_second, h_greatest, h_least, h_period, h_swing, h_gain, h_past, h_go, h_sched, h_i_lim, h_i_gb, h_i_md, h_i_dt, h_i_me, h_i_st, h_i_up, h_i_gl, h_i_sw, h_i_rl, h_i_m0⟩
    · show (f_X6_proposed_j1_1 (ym_m_experiment M) (ym_m_period M) (ym_m_swing M) 1 ruv wh) = f_L_proposed_r (yl_rpr T.2.1) (yl_rpe T.2.1) (yl_rsw T.2.1) ruv wh
      rw [hcd]; unfold f_L_proposed_r; rw [if_pos hc]; exact w123_0 hc
    · show (f_L_proposed_uo (yl_rpr T.2.1) (yl_rpe T.2.1) (yl_rsw T.2.1) (yl_rhe T.2.1) uo ruv wh) (0 : Int32).toNatClampNeg = (f_X6_proposed_r (ym_m_experiment M) (ym_m_height M) (ym_m_period M) (ym_m_swing M) 1 ruv wh).toInt64
      simp only [f_L_proposed_uo, f_X6_proposed_r, if_pos hc, if_neg hz]
      rw [ul_eq]
      exact pr_eq (h_height.2.1) (h_period.2.1) (h_swing.2.1) (h_i_sw.2.1) hc
  · have hz : f_X6_can_j1_1 (f_X6_proposed_j1_1 (ym_m_experiment M) (ym_m_period M) (ym_m_swing M) 1 ruv wh) = 0 := can_no (by rw [hcd]; exact w123_n hc)
    refine ⟨?_, fun h => absurd h ?_, h_bs, h_a1, h_a2, h_b, h_deadTime, h_load, h_measure, h_before, h_low, h_high, h_setpoint, h_integral, h_guard, h_share, h_mode, h_hand, h_follows, h_hasMaster, h_isStarved, h_held, h_sum, h_lastError, h_lastRate, h_experiment, h_center, h_height, h_band, h_isUp, h_gone, h_risings, h_second, h_greatest, h_least, h_period, h_swing, h_gain, h_past, h_go, h_sched, h_i_lim, h_i_gb, h_i_md, h_i_dt, h_i_me, h_i_st, h_i_up, h_i_gl, h_i_sw, h_i_rl, h_i_m0⟩
    · show (f_X6_proposed_j1_1 (ym_m_experiment M) (ym_m_period M) (ym_m_swing M) 1 ruv wh) = f_L_proposed_r (yl_rpr T.2.1) (yl_rpe T.2.1) (yl_rsw T.2.1) ruv wh
      rw [hcd]; unfold f_L_proposed_r; rw [if_neg hc]
    · show ¬ f_L_proposed_r (yl_rpr T.2.1) (yl_rpe T.2.1) (yl_rsw T.2.1) ruv wh = 0
      unfold f_L_proposed_r; rw [if_neg hc]; exact w123_n hc
set_option maxHeartbeats 1000000 in
theorem rel_proposed_2 (hR : Rel T bs M) (ruv : Int32) (wh : Int32) (uo : Nat → Int64) : rm_thrown (um_proposed M 2 ruv wh) = lr_proposed T.2.2 ruv wh ∧ (lr_proposed T.2.2 ruv wh = 0 → lo_proposed T.2.2 uo ruv wh (0 : Int32).toNatClampNeg = (rm_proposed M 2 ruv wh).toInt64) ∧ Rel (T.1, T.2.1, (lu_proposed T.2.2 ruv wh)) bs (um_proposed M 2 ruv wh) := by
  obtain ⟨h_bs, h_a1, h_a2, h_b, h_deadTime, h_load, h_measure, h_before, h_low, h_high, h_setpoint, h_integral, h_guard, h_share, h_mode, h_hand, h_follows, h_hasMaster, h_isStarved, h_held, h_sum, h_lastError, h_lastRate, h_experiment, h_center, h_height, h_band, h_isUp, h_gone, h_risings, h_second, h_greatest, h_least, h_period, h_swing, h_gain, h_past, h_go, h_sched, h_i_lim, h_i_gb, h_i_md, h_i_dt, h_i_me, h_i_st, h_i_up, h_i_gl, h_i_sw, h_i_rl, h_i_m0⟩ := Rel_iff.mp hR
  have hcd : (f_X6_proposed_j1_1 (ym_m_experiment M) (ym_m_period M) (ym_m_swing M) 2 ruv wh) = wr123 (f_X5_proposed_x (yl_rpr T.2.2) (yl_rpe T.2.2) (yl_rsw T.2.2) ruv wh) := cd_proposed il_2 (h_experiment.2.2) (h_period.2.2) (h_swing.2.2) (h_i_sw.2.2).1 (h_i_sw.2.2).2.2.1
  by_cases hc : (f_X5_proposed_x (yl_rpr T.2.2) (yl_rpe T.2.2) (yl_rsw T.2.2) ruv wh) = 0
  · have hz : ¬ f_X6_can_j1_1 (f_X6_proposed_j1_1 (ym_m_experiment M) (ym_m_period M) (ym_m_swing M) 2 ruv wh) = 0 := can_ok (by rw [hcd]; exact w123_0 hc)
    refine ⟨?_, fun _ => ?_, h_bs, h_a1, h_a2, h_b, h_deadTime, h_load, h_measure, h_before, h_low, h_high, h_setpoint, h_integral, h_guard, h_share, h_mode, h_hand, h_follows, h_hasMaster, h_isStarved, h_held, h_sum, h_lastError, h_lastRate, h_experiment, h_center, h_height, h_band, h_isUp, h_gone, h_risings, h_second, h_greatest, h_least, h_period, h_swing, h_gain, h_past, h_go, h_sched, h_i_lim, h_i_gb, h_i_md, h_i_dt, h_i_me, h_i_st, h_i_up, h_i_gl, h_i_sw, h_i_rl, h_i_m0⟩
    · show (f_X6_proposed_j1_1 (ym_m_experiment M) (ym_m_period M) (ym_m_swing M) 2 ruv wh) = f_L_proposed_r (yl_rpr T.2.2) (yl_rpe T.2.2) (yl_rsw T.2.2) ruv wh
      rw [hcd]; unfold f_L_proposed_r; rw [if_pos hc]; exact w123_0 hc
    · show (f_L_proposed_uo (yl_rpr T.2.2) (yl_rpe T.2.2) (yl_rsw T.2.2) (yl_rhe T.2.2) uo ruv wh) (0 : Int32).toNatClampNeg = (f_X6_proposed_r (ym_m_experiment M) (ym_m_height M) (ym_m_period M) (ym_m_swing M) 2 ruv wh).toInt64
      simp only [f_L_proposed_uo, f_X6_proposed_r, if_pos hc, if_neg hz]
      rw [ul_eq]
      exact pr_eq (h_height.2.2) (h_period.2.2) (h_swing.2.2) (h_i_sw.2.2) hc
  · have hz : f_X6_can_j1_1 (f_X6_proposed_j1_1 (ym_m_experiment M) (ym_m_period M) (ym_m_swing M) 2 ruv wh) = 0 := can_no (by rw [hcd]; exact w123_n hc)
    refine ⟨?_, fun h => absurd h ?_, h_bs, h_a1, h_a2, h_b, h_deadTime, h_load, h_measure, h_before, h_low, h_high, h_setpoint, h_integral, h_guard, h_share, h_mode, h_hand, h_follows, h_hasMaster, h_isStarved, h_held, h_sum, h_lastError, h_lastRate, h_experiment, h_center, h_height, h_band, h_isUp, h_gone, h_risings, h_second, h_greatest, h_least, h_period, h_swing, h_gain, h_past, h_go, h_sched, h_i_lim, h_i_gb, h_i_md, h_i_dt, h_i_me, h_i_st, h_i_up, h_i_gl, h_i_sw, h_i_rl, h_i_m0⟩
    · show (f_X6_proposed_j1_1 (ym_m_experiment M) (ym_m_period M) (ym_m_swing M) 2 ruv wh) = f_L_proposed_r (yl_rpr T.2.2) (yl_rpe T.2.2) (yl_rsw T.2.2) ruv wh
      rw [hcd]; unfold f_L_proposed_r; rw [if_neg hc]
    · show ¬ f_L_proposed_r (yl_rpr T.2.2) (yl_rpe T.2.2) (yl_rsw T.2.2) ruv wh = 0
      unfold f_L_proposed_r; rw [if_neg hc]; exact w123_n hc
theorem rel_proposed (hR : Rel T bs M) (lp : Int32) (ruv : Int32) (wh : Int32) (uo : Nat → Int64) : rm_thrown (um_proposed M lp ruv wh) = ofL T lp (fun s => lr_proposed s ruv wh) 1 ∧ (ofL T lp (fun s => lr_proposed s ruv wh) 1 = 0 → (ofL T lp (fun s => lo_proposed s uo ruv wh) uo) (0 : Int32).toNatClampNeg = (rm_proposed M lp ruv wh).toInt64) ∧ Rel (onL T lp (fun s => lu_proposed s ruv wh)) bs (um_proposed M lp ruv wh) := by
  by_cases h0 : lp = 0
  · subst h0
    rw [ofL_0, ofL_0, onL_0]
    exact rel_proposed_0 hR ruv wh uo
  by_cases h1 : lp = 1
  · subst h1
    rw [ofL_1, ofL_1, onL_1]
    exact rel_proposed_1 hR ruv wh uo
  by_cases h2 : lp = 2
  · subst h2
    rw [ofL_2, ofL_2, onL_2]
    exact rel_proposed_2 hR ruv wh uo
  rw [ofL_o T _ _ h0 h1 h2, ofL_o T _ _ h0 h1 h2, onL_o T _ h0 h1 h2]
  have hcd : (f_X6_proposed_j1_1 (ym_m_experiment M) (ym_m_period M) (ym_m_swing M) lp ruv wh) = 1 := by simp only [f_X6_proposed_j1_1, il_o h0 h1 h2]; rfl
  have hz : f_X6_can_j1_1 (f_X6_proposed_j1_1 (ym_m_experiment M) (ym_m_period M) (ym_m_swing M) lp ruv wh) = 0 := can_no (by rw [hcd]; decide)
  obtain ⟨h_bs, h_a1, h_a2, h_b, h_deadTime, h_load, h_measure, h_before, h_low, h_high, h_setpoint, h_integral, h_guard, h_share, h_mode, h_hand, h_follows, h_hasMaster, h_isStarved, h_held, h_sum, h_lastError, h_lastRate, h_experiment, h_center, h_height, h_band, h_isUp, h_gone, h_risings, h_second, h_greatest, h_least, h_period, h_swing, h_gain, h_past, h_go, h_sched, h_i_lim, h_i_gb, h_i_md, h_i_dt, h_i_me, h_i_st, h_i_up, h_i_gl, h_i_sw, h_i_rl, h_i_m0⟩ := Rel_iff.mp hR
  refine ⟨hcd, fun h => absurd h (by decide), h_bs, h_a1, h_a2, h_b, h_deadTime, h_load, h_measure, h_before, h_low, h_high, h_setpoint, h_integral, h_guard, h_share, h_mode, h_hand, h_follows, h_hasMaster, h_isStarved, h_held, h_sum, h_lastError, h_lastRate, h_experiment, h_center, h_height, h_band, h_isUp, h_gone, h_risings, h_second, h_greatest, h_least, h_period, h_swing, h_gain, h_past, h_go, h_sched, h_i_lim, h_i_gb, h_i_md, h_i_dt, h_i_me, h_i_st, h_i_up, h_i_gl, h_i_sw, h_i_rl, h_i_m0⟩
end RO
