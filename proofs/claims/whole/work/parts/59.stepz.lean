theorem un_s {f : Nat → Int64} {i j : Nat} {x y : Int64} (h : ¬ j = i) (k : f j = y) : vp_updL f i x j = y := (ul_ne f x h).trans k
theorem ue_s {f : Nat → Int64} {i : Nat} {x y : Int64} (k : x = y) : vp_updL f i x i = y := (ul_eq f i x).trans k
theorem sp_0 (M : MT) : ym_m_past (stepM M) 0 = (pr 0 0 M) := by
  rw [ps_m_past]
  unfold sM_m_past
  refine un_s (by decide) ?_
  refine un_s (by decide) ?_
  refine un_s (by decide) ?_
  refine un_s (by decide) ?_
  refine un_s (by decide) ?_
  refine un_s (by decide) ?_
  refine un_s (by decide) ?_
  refine un_s (by decide) ?_
  refine un_s (by decide) ?_
  refine un_s (by decide) ?_
  refine un_s (by decide) ?_
  refine un_s (by decide) ?_
  refine un_s (by decide) ?_
  refine un_s (by decide) ?_
  refine un_s (by decide) ?_
  refine un_s (by decide) ?_
  refine un_s (by decide) ?_
  refine un_s (by decide) ?_
  refine un_s (by decide) ?_
  refine un_s (by decide) ?_
  refine un_s (by decide) ?_
  refine un_s (by decide) ?_
  refine ue_s ?_
  simp only [f_X6_sample_m_gain, f_X6_sample_m_gone, f_X6_sample_m_isStarved, f_X6_sample_m_lastRate, f_X6_sample_ms_samples, f_X6_sample_v10, f_X6_sample_v11, f_X6_sample_v12, f_X6_sample_v13, f_X6_sample_v14, f_X6_sample_v21, f_X6_sample_v22, f_X6_sample_v23, f_X6_sample_v24, f_X6_sample_v25, f_X6_sample_v26, f_X6_sample_v27, f_X6_sample_v28, f_X6_sample_v29, f_X6_sample_v30, f_X6_sample_v31, f_X6_sample_v32, f_X6_sample_v33, f_X6_sample_v34, f_X6_sample_v35, f_X6_sample_v36, f_X6_sample_v4, f_X6_sample_v5, f_X6_sample_v6, f_X6_sample_v7, f_X6_sample_v8, f_X6_sample_v9, pg_ms_samples, pg_m_a1, pg_m_a2, pg_m_b, pg_m_deadTime, pg_m_load, pg_m_measure, pg_m_before, pg_m_past, pg_m_gain, pg_m_low, pg_m_high, pg_m_setpoint, pg_m_integral, pg_m_guard, pg_m_share, pg_m_mode, pg_m_hand, pg_m_follows, pg_m_hasMaster, pg_m_isStarved, pg_m_held, pg_m_sum, pg_m_lastError, pg_m_lastRate, pg_m_goesOn, pg_m_points, pg_m_at, pg_m_then, pg_m_experiment, pg_m_center, pg_m_height, pg_m_band, pg_m_isUp, pg_m_gone, pg_m_risings, pg_m_second, pg_m_greatest, pg_m_least, pg_m_period, pg_m_swing, pg_ms_thrown, pr]
theorem sp_1 (M : MT) : ym_m_past (stepM M) 1 = (ym_m_past M 0) := by
  rw [ps_m_past]
  unfold sM_m_past
  refine un_s (by decide) ?_
  refine un_s (by decide) ?_
  refine un_s (by decide) ?_
  refine un_s (by decide) ?_
  refine un_s (by decide) ?_
  refine un_s (by decide) ?_
  refine un_s (by decide) ?_
  refine un_s (by decide) ?_
  refine un_s (by decide) ?_
  refine un_s (by decide) ?_
  refine un_s (by decide) ?_
  refine un_s (by decide) ?_
  refine un_s (by decide) ?_
  refine un_s (by decide) ?_
  refine un_s (by decide) ?_
  refine un_s (by decide) ?_
  refine un_s (by decide) ?_
  refine un_s (by decide) ?_
  refine un_s (by decide) ?_
  refine un_s (by decide) ?_
  refine un_s (by decide) ?_
  refine un_s (by decide) ?_
  refine un_s (by decide) ?_
  refine ue_s ?_
  refine un_s (by decide) ?_
  refine un_s (by decide) ?_
  refine un_s (by decide) ?_
  refine un_s (by decide) ?_
  refine un_s (by decide) ?_
  refine un_s (by decide) ?_
  refine un_s (by decide) ?_
  refine un_s (by decide) ?_
  refine un_s (by decide) ?_
  rfl
theorem sp_2 (M : MT) : ym_m_past (stepM M) 2 = (ym_m_past M 1) := by
  rw [ps_m_past]
  unfold sM_m_past
  refine un_s (by decide) ?_
  refine un_s (by decide) ?_
  refine un_s (by decide) ?_
  refine un_s (by decide) ?_
  refine un_s (by decide) ?_
  refine un_s (by decide) ?_
  refine un_s (by decide) ?_
  refine un_s (by decide) ?_
  refine un_s (by decide) ?_
  refine un_s (by decide) ?_
  refine un_s (by decide) ?_
  refine un_s (by decide) ?_
  refine un_s (by decide) ?_
  refine un_s (by decide) ?_
  refine un_s (by decide) ?_
  refine un_s (by decide) ?_
  refine un_s (by decide) ?_
  refine un_s (by decide) ?_
  refine un_s (by decide) ?_
  refine un_s (by decide) ?_
  refine un_s (by decide) ?_
  refine un_s (by decide) ?_
  refine un_s (by decide) ?_
  refine un_s (by decide) ?_
  refine ue_s ?_
  refine un_s (by decide) ?_
  refine un_s (by decide) ?_
  refine un_s (by decide) ?_
  refine un_s (by decide) ?_
  refine un_s (by decide) ?_
  refine un_s (by decide) ?_
  refine un_s (by decide) ?_
  refine un_s (by decide) ?_
  rfl
theorem sp_3 (M : MT) : ym_m_past (stepM M) 3 = (ym_m_past M 2) := by
  rw [ps_m_past]
  unfold sM_m_past
  refine un_s (by decide) ?_
  refine un_s (by decide) ?_
  refine un_s (by decide) ?_
  refine un_s (by decide) ?_
  refine un_s (by decide) ?_
  refine un_s (by decide) ?_
  refine un_s (by decide) ?_
  refine un_s (by decide) ?_
  refine un_s (by decide) ?_
  refine un_s (by decide) ?_
  refine un_s (by decide) ?_
  refine un_s (by decide) ?_
  refine un_s (by decide) ?_
  refine un_s (by decide) ?_
  refine un_s (by decide) ?_
  refine un_s (by decide) ?_
  refine un_s (by decide) ?_
  refine un_s (by decide) ?_
  refine un_s (by decide) ?_
  refine un_s (by decide) ?_
  refine un_s (by decide) ?_
  refine un_s (by decide) ?_
  refine un_s (by decide) ?_
  refine un_s (by decide) ?_
  refine un_s (by decide) ?_
  refine ue_s ?_
  refine un_s (by decide) ?_
  refine un_s (by decide) ?_
  refine un_s (by decide) ?_
  refine un_s (by decide) ?_
  refine un_s (by decide) ?_
  refine un_s (by decide) ?_
  refine un_s (by decide) ?_
  rfl
theorem sp_4 (M : MT) : ym_m_past (stepM M) 4 = (ym_m_past M 3) := by
  rw [ps_m_past]
  unfold sM_m_past
  refine un_s (by decide) ?_
  refine un_s (by decide) ?_
  refine un_s (by decide) ?_
  refine un_s (by decide) ?_
  refine un_s (by decide) ?_
  refine un_s (by decide) ?_
  refine un_s (by decide) ?_
  refine un_s (by decide) ?_
  refine un_s (by decide) ?_
  refine un_s (by decide) ?_
  refine un_s (by decide) ?_
  refine un_s (by decide) ?_
  refine un_s (by decide) ?_
  refine un_s (by decide) ?_
  refine un_s (by decide) ?_
  refine un_s (by decide) ?_
  refine un_s (by decide) ?_
  refine un_s (by decide) ?_
  refine un_s (by decide) ?_
  refine un_s (by decide) ?_
  refine un_s (by decide) ?_
  refine un_s (by decide) ?_
  refine un_s (by decide) ?_
  refine un_s (by decide) ?_
  refine un_s (by decide) ?_
  refine un_s (by decide) ?_
  refine ue_s ?_
  refine un_s (by decide) ?_
  refine un_s (by decide) ?_
  refine un_s (by decide) ?_
  refine un_s (by decide) ?_
  refine un_s (by decide) ?_
  refine un_s (by decide) ?_
  rfl
theorem sp_5 (M : MT) : ym_m_past (stepM M) 5 = (ym_m_past M 4) := by
  rw [ps_m_past]
  unfold sM_m_past
  refine un_s (by decide) ?_
  refine un_s (by decide) ?_
  refine un_s (by decide) ?_
  refine un_s (by decide) ?_
  refine un_s (by decide) ?_
  refine un_s (by decide) ?_
  refine un_s (by decide) ?_
  refine un_s (by decide) ?_
  refine un_s (by decide) ?_
  refine un_s (by decide) ?_
  refine un_s (by decide) ?_
  refine un_s (by decide) ?_
  refine un_s (by decide) ?_
  refine un_s (by decide) ?_
  refine un_s (by decide) ?_
  refine un_s (by decide) ?_
  refine un_s (by decide) ?_
  refine un_s (by decide) ?_
  refine un_s (by decide) ?_
  refine un_s (by decide) ?_
  refine un_s (by decide) ?_
  refine un_s (by decide) ?_
  refine un_s (by decide) ?_
  refine un_s (by decide) ?_
  refine un_s (by decide) ?_
  refine un_s (by decide) ?_
  refine un_s (by decide) ?_
  refine ue_s ?_
  refine un_s (by decide) ?_
  refine un_s (by decide) ?_
  refine un_s (by decide) ?_
  refine un_s (by decide) ?_
  refine un_s (by decide) ?_
  rfl
theorem sp_6 (M : MT) : ym_m_past (stepM M) 6 = (ym_m_past M 5) := by
  rw [ps_m_past]
  unfold sM_m_past
  refine un_s (by decide) ?_
  refine un_s (by decide) ?_
  refine un_s (by decide) ?_
  refine un_s (by decide) ?_
  refine un_s (by decide) ?_
  refine un_s (by decide) ?_
  refine un_s (by decide) ?_
  refine un_s (by decide) ?_
  refine un_s (by decide) ?_
  refine un_s (by decide) ?_
  refine un_s (by decide) ?_
  refine un_s (by decide) ?_
  refine un_s (by decide) ?_
  refine un_s (by decide) ?_
  refine un_s (by decide) ?_
  refine un_s (by decide) ?_
  refine un_s (by decide) ?_
  refine un_s (by decide) ?_
  refine un_s (by decide) ?_
  refine un_s (by decide) ?_
  refine un_s (by decide) ?_
  refine un_s (by decide) ?_
  refine un_s (by decide) ?_
  refine un_s (by decide) ?_
  refine un_s (by decide) ?_
  refine un_s (by decide) ?_
  refine un_s (by decide) ?_
  refine un_s (by decide) ?_
  refine ue_s ?_
  refine un_s (by decide) ?_
  refine un_s (by decide) ?_
  refine un_s (by decide) ?_
  refine un_s (by decide) ?_
  rfl
theorem sp_7 (M : MT) : ym_m_past (stepM M) 7 = (ym_m_past M 6) := by
  rw [ps_m_past]
  unfold sM_m_past
  refine un_s (by decide) ?_
  refine un_s (by decide) ?_
  refine un_s (by decide) ?_
  refine un_s (by decide) ?_
  refine un_s (by decide) ?_
  refine un_s (by decide) ?_
  refine un_s (by decide) ?_
  refine un_s (by decide) ?_
  refine un_s (by decide) ?_
  refine un_s (by decide) ?_
  refine un_s (by decide) ?_
  refine un_s (by decide) ?_
  refine un_s (by decide) ?_
  refine un_s (by decide) ?_
  refine un_s (by decide) ?_
  refine un_s (by decide) ?_
  refine un_s (by decide) ?_
  refine un_s (by decide) ?_
  refine un_s (by decide) ?_
  refine un_s (by decide) ?_
  refine un_s (by decide) ?_
  refine un_s (by decide) ?_
  refine un_s (by decide) ?_
  refine un_s (by decide) ?_
  refine un_s (by decide) ?_
  refine un_s (by decide) ?_
  refine un_s (by decide) ?_
  refine un_s (by decide) ?_
  refine un_s (by decide) ?_
  refine ue_s ?_
  refine un_s (by decide) ?_
  refine un_s (by decide) ?_
  refine un_s (by decide) ?_
  rfl
theorem sp_8 (M : MT) : ym_m_past (stepM M) 8 = (ym_m_past M 7) := by
  rw [ps_m_past]
  unfold sM_m_past
  refine un_s (by decide) ?_
  refine un_s (by decide) ?_
  refine un_s (by decide) ?_
  refine un_s (by decide) ?_
  refine un_s (by decide) ?_
  refine un_s (by decide) ?_
  refine un_s (by decide) ?_
  refine un_s (by decide) ?_
  refine un_s (by decide) ?_
  refine un_s (by decide) ?_
  refine un_s (by decide) ?_
  refine un_s (by decide) ?_
  refine un_s (by decide) ?_
  refine un_s (by decide) ?_
  refine un_s (by decide) ?_
  refine un_s (by decide) ?_
  refine un_s (by decide) ?_
  refine un_s (by decide) ?_
  refine un_s (by decide) ?_
  refine un_s (by decide) ?_
  refine un_s (by decide) ?_
  refine un_s (by decide) ?_
  refine un_s (by decide) ?_
  refine un_s (by decide) ?_
  refine un_s (by decide) ?_
  refine un_s (by decide) ?_
  refine un_s (by decide) ?_
  refine un_s (by decide) ?_
  refine un_s (by decide) ?_
  refine un_s (by decide) ?_
  refine ue_s ?_
  refine un_s (by decide) ?_
  refine un_s (by decide) ?_
  rfl
theorem sp_9 (M : MT) : ym_m_past (stepM M) 9 = (ym_m_past M 8) := by
  rw [ps_m_past]
  unfold sM_m_past
  refine un_s (by decide) ?_
  refine un_s (by decide) ?_
  refine un_s (by decide) ?_
  refine un_s (by decide) ?_
  refine un_s (by decide) ?_
  refine un_s (by decide) ?_
  refine un_s (by decide) ?_
  refine un_s (by decide) ?_
  refine un_s (by decide) ?_
  refine un_s (by decide) ?_
  refine un_s (by decide) ?_
  refine un_s (by decide) ?_
  refine un_s (by decide) ?_
  refine un_s (by decide) ?_
  refine un_s (by decide) ?_
  refine un_s (by decide) ?_
  refine un_s (by decide) ?_
  refine un_s (by decide) ?_
  refine un_s (by decide) ?_
  refine un_s (by decide) ?_
  refine un_s (by decide) ?_
  refine un_s (by decide) ?_
  refine un_s (by decide) ?_
  refine un_s (by decide) ?_
  refine un_s (by decide) ?_
  refine un_s (by decide) ?_
  refine un_s (by decide) ?_
  refine un_s (by decide) ?_
  refine un_s (by decide) ?_
  refine un_s (by decide) ?_
  refine un_s (by decide) ?_
  refine ue_s ?_
  refine un_s (by decide) ?_
  rfl
theorem sp_10 (M : MT) : ym_m_past (stepM M) 10 = (ym_m_past M 9) := by
  rw [ps_m_past]
  unfold sM_m_past
  refine un_s (by decide) ?_
  refine un_s (by decide) ?_
  refine un_s (by decide) ?_
  refine un_s (by decide) ?_
  refine un_s (by decide) ?_
  refine un_s (by decide) ?_
  refine un_s (by decide) ?_
  refine un_s (by decide) ?_
  refine un_s (by decide) ?_
  refine un_s (by decide) ?_
  refine un_s (by decide) ?_
  refine un_s (by decide) ?_
  refine un_s (by decide) ?_
  refine un_s (by decide) ?_
  refine un_s (by decide) ?_
  refine un_s (by decide) ?_
  refine un_s (by decide) ?_
  refine un_s (by decide) ?_
  refine un_s (by decide) ?_
  refine un_s (by decide) ?_
  refine un_s (by decide) ?_
  refine un_s (by decide) ?_
  refine un_s (by decide) ?_
  refine un_s (by decide) ?_
  refine un_s (by decide) ?_
  refine un_s (by decide) ?_
  refine un_s (by decide) ?_
  refine un_s (by decide) ?_
  refine un_s (by decide) ?_
  refine un_s (by decide) ?_
  refine un_s (by decide) ?_
  refine un_s (by decide) ?_
  refine ue_s ?_
  rfl
theorem sp_11 (M : MT) : ym_m_past (stepM M) 11 = (pr 1 (pr 0 0 M) (pq 0 0 M)) := by
  rw [ps_m_past]
  unfold sM_m_past
  refine un_s (by decide) ?_
  refine un_s (by decide) ?_
  refine un_s (by decide) ?_
  refine un_s (by decide) ?_
  refine un_s (by decide) ?_
  refine un_s (by decide) ?_
  refine un_s (by decide) ?_
  refine un_s (by decide) ?_
  refine un_s (by decide) ?_
  refine un_s (by decide) ?_
  refine un_s (by decide) ?_
  refine ue_s ?_
  simp only [f_X6_sample_m_gain, f_X6_sample_m_gone, f_X6_sample_m_isStarved, f_X6_sample_m_lastRate, f_X6_sample_ms_samples, f_X6_sample_v10, f_X6_sample_v11, f_X6_sample_v12, f_X6_sample_v13, f_X6_sample_v14, f_X6_sample_v21, f_X6_sample_v22, f_X6_sample_v23, f_X6_sample_v24, f_X6_sample_v25, f_X6_sample_v26, f_X6_sample_v27, f_X6_sample_v28, f_X6_sample_v29, f_X6_sample_v30, f_X6_sample_v31, f_X6_sample_v32, f_X6_sample_v33, f_X6_sample_v34, f_X6_sample_v35, f_X6_sample_v36, f_X6_sample_v4, f_X6_sample_v5, f_X6_sample_v6, f_X6_sample_v7, f_X6_sample_v8, f_X6_sample_v9, pg_ms_samples, pg_m_a1, pg_m_a2, pg_m_b, pg_m_deadTime, pg_m_load, pg_m_measure, pg_m_before, pg_m_past, pg_m_gain, pg_m_low, pg_m_high, pg_m_setpoint, pg_m_integral, pg_m_guard, pg_m_share, pg_m_mode, pg_m_hand, pg_m_follows, pg_m_hasMaster, pg_m_isStarved, pg_m_held, pg_m_sum, pg_m_lastError, pg_m_lastRate, pg_m_goesOn, pg_m_points, pg_m_at, pg_m_then, pg_m_experiment, pg_m_center, pg_m_height, pg_m_band, pg_m_isUp, pg_m_gone, pg_m_risings, pg_m_second, pg_m_greatest, pg_m_least, pg_m_period, pg_m_swing, pg_ms_thrown, pr]
theorem sp_12 (M : MT) : ym_m_past (stepM M) 12 = (ym_m_past M 11) := by
  rw [ps_m_past]
  unfold sM_m_past
  refine un_s (by decide) ?_
  refine un_s (by decide) ?_
  refine un_s (by decide) ?_
  refine un_s (by decide) ?_
  refine un_s (by decide) ?_
  refine un_s (by decide) ?_
  refine un_s (by decide) ?_
  refine un_s (by decide) ?_
  refine un_s (by decide) ?_
  refine un_s (by decide) ?_
  refine un_s (by decide) ?_
  refine un_s (by decide) ?_
  refine ue_s ?_
  refine un_s (by decide) ?_
  refine un_s (by decide) ?_
  refine un_s (by decide) ?_
  refine un_s (by decide) ?_
  refine un_s (by decide) ?_
  refine un_s (by decide) ?_
  refine un_s (by decide) ?_
  refine un_s (by decide) ?_
  refine un_s (by decide) ?_
  refine un_s (by decide) ?_
  refine un_s (by decide) ?_
  refine un_s (by decide) ?_
  refine un_s (by decide) ?_
  refine un_s (by decide) ?_
  refine un_s (by decide) ?_
  refine un_s (by decide) ?_
  refine un_s (by decide) ?_
  refine un_s (by decide) ?_
  refine un_s (by decide) ?_
  refine un_s (by decide) ?_
  rfl
theorem sp_13 (M : MT) : ym_m_past (stepM M) 13 = (ym_m_past M 12) := by
  rw [ps_m_past]
  unfold sM_m_past
  refine un_s (by decide) ?_
  refine un_s (by decide) ?_
  refine un_s (by decide) ?_
  refine un_s (by decide) ?_
  refine un_s (by decide) ?_
  refine un_s (by decide) ?_
  refine un_s (by decide) ?_
  refine un_s (by decide) ?_
  refine un_s (by decide) ?_
  refine un_s (by decide) ?_
  refine un_s (by decide) ?_
  refine un_s (by decide) ?_
  refine un_s (by decide) ?_
  refine ue_s ?_
  refine un_s (by decide) ?_
  refine un_s (by decide) ?_
  refine un_s (by decide) ?_
  refine un_s (by decide) ?_
  refine un_s (by decide) ?_
  refine un_s (by decide) ?_
  refine un_s (by decide) ?_
  refine un_s (by decide) ?_
  refine un_s (by decide) ?_
  refine un_s (by decide) ?_
  refine un_s (by decide) ?_
  refine un_s (by decide) ?_
  refine un_s (by decide) ?_
  refine un_s (by decide) ?_
  refine un_s (by decide) ?_
  refine un_s (by decide) ?_
  refine un_s (by decide) ?_
  refine un_s (by decide) ?_
  refine un_s (by decide) ?_
  rfl
theorem sp_14 (M : MT) : ym_m_past (stepM M) 14 = (ym_m_past M 13) := by
  rw [ps_m_past]
  unfold sM_m_past
  refine un_s (by decide) ?_
  refine un_s (by decide) ?_
  refine un_s (by decide) ?_
  refine un_s (by decide) ?_
  refine un_s (by decide) ?_
  refine un_s (by decide) ?_
  refine un_s (by decide) ?_
  refine un_s (by decide) ?_
  refine un_s (by decide) ?_
  refine un_s (by decide) ?_
  refine un_s (by decide) ?_
  refine un_s (by decide) ?_
  refine un_s (by decide) ?_
  refine un_s (by decide) ?_
  refine ue_s ?_
  refine un_s (by decide) ?_
  refine un_s (by decide) ?_
  refine un_s (by decide) ?_
  refine un_s (by decide) ?_
  refine un_s (by decide) ?_
  refine un_s (by decide) ?_
  refine un_s (by decide) ?_
  refine un_s (by decide) ?_
  refine un_s (by decide) ?_
  refine un_s (by decide) ?_
  refine un_s (by decide) ?_
  refine un_s (by decide) ?_
  refine un_s (by decide) ?_
  refine un_s (by decide) ?_
  refine un_s (by decide) ?_
  refine un_s (by decide) ?_
  refine un_s (by decide) ?_
  refine un_s (by decide) ?_
  rfl
theorem sp_15 (M : MT) : ym_m_past (stepM M) 15 = (ym_m_past M 14) := by
  rw [ps_m_past]
  unfold sM_m_past
  refine un_s (by decide) ?_
  refine un_s (by decide) ?_
  refine un_s (by decide) ?_
  refine un_s (by decide) ?_
  refine un_s (by decide) ?_
  refine un_s (by decide) ?_
  refine un_s (by decide) ?_
  refine un_s (by decide) ?_
  refine un_s (by decide) ?_
  refine un_s (by decide) ?_
  refine un_s (by decide) ?_
  refine un_s (by decide) ?_
  refine un_s (by decide) ?_
  refine un_s (by decide) ?_
  refine un_s (by decide) ?_
  refine ue_s ?_
  refine un_s (by decide) ?_
  refine un_s (by decide) ?_
  refine un_s (by decide) ?_
  refine un_s (by decide) ?_
  refine un_s (by decide) ?_
  refine un_s (by decide) ?_
  refine un_s (by decide) ?_
  refine un_s (by decide) ?_
  refine un_s (by decide) ?_
  refine un_s (by decide) ?_
  refine un_s (by decide) ?_
  refine un_s (by decide) ?_
  refine un_s (by decide) ?_
  refine un_s (by decide) ?_
  refine un_s (by decide) ?_
  refine un_s (by decide) ?_
  refine un_s (by decide) ?_
  rfl
theorem sp_16 (M : MT) : ym_m_past (stepM M) 16 = (ym_m_past M 15) := by
  rw [ps_m_past]
  unfold sM_m_past
  refine un_s (by decide) ?_
  refine un_s (by decide) ?_
  refine un_s (by decide) ?_
  refine un_s (by decide) ?_
  refine un_s (by decide) ?_
  refine un_s (by decide) ?_
  refine un_s (by decide) ?_
  refine un_s (by decide) ?_
  refine un_s (by decide) ?_
  refine un_s (by decide) ?_
  refine un_s (by decide) ?_
  refine un_s (by decide) ?_
  refine un_s (by decide) ?_
  refine un_s (by decide) ?_
  refine un_s (by decide) ?_
  refine un_s (by decide) ?_
  refine ue_s ?_
  refine un_s (by decide) ?_
  refine un_s (by decide) ?_
  refine un_s (by decide) ?_
  refine un_s (by decide) ?_
  refine un_s (by decide) ?_
  refine un_s (by decide) ?_
  refine un_s (by decide) ?_
  refine un_s (by decide) ?_
  refine un_s (by decide) ?_
  refine un_s (by decide) ?_
  refine un_s (by decide) ?_
  refine un_s (by decide) ?_
  refine un_s (by decide) ?_
  refine un_s (by decide) ?_
  refine un_s (by decide) ?_
  refine un_s (by decide) ?_
  rfl
theorem sp_17 (M : MT) : ym_m_past (stepM M) 17 = (ym_m_past M 16) := by
  rw [ps_m_past]
  unfold sM_m_past
  refine un_s (by decide) ?_
  refine un_s (by decide) ?_
  refine un_s (by decide) ?_
  refine un_s (by decide) ?_
  refine un_s (by decide) ?_
  refine un_s (by decide) ?_
  refine un_s (by decide) ?_
  refine un_s (by decide) ?_
  refine un_s (by decide) ?_
  refine un_s (by decide) ?_
  refine un_s (by decide) ?_
  refine un_s (by decide) ?_
  refine un_s (by decide) ?_
  refine un_s (by decide) ?_
  refine un_s (by decide) ?_
  refine un_s (by decide) ?_
  refine un_s (by decide) ?_
  refine ue_s ?_
  refine un_s (by decide) ?_
  refine un_s (by decide) ?_
  refine un_s (by decide) ?_
  refine un_s (by decide) ?_
  refine un_s (by decide) ?_
  refine un_s (by decide) ?_
  refine un_s (by decide) ?_
  refine un_s (by decide) ?_
  refine un_s (by decide) ?_
  refine un_s (by decide) ?_
  refine un_s (by decide) ?_
  refine un_s (by decide) ?_
  refine un_s (by decide) ?_
  refine un_s (by decide) ?_
  refine un_s (by decide) ?_
  rfl
theorem sp_18 (M : MT) : ym_m_past (stepM M) 18 = (ym_m_past M 17) := by
  rw [ps_m_past]
  unfold sM_m_past
  refine un_s (by decide) ?_
  refine un_s (by decide) ?_
  refine un_s (by decide) ?_
  refine un_s (by decide) ?_
  refine un_s (by decide) ?_
  refine un_s (by decide) ?_
  refine un_s (by decide) ?_
  refine un_s (by decide) ?_
  refine un_s (by decide) ?_
  refine un_s (by decide) ?_
  refine un_s (by decide) ?_
  refine un_s (by decide) ?_
  refine un_s (by decide) ?_
  refine un_s (by decide) ?_
  refine un_s (by decide) ?_
  refine un_s (by decide) ?_
  refine un_s (by decide) ?_
  refine un_s (by decide) ?_
  refine ue_s ?_
  refine un_s (by decide) ?_
  refine un_s (by decide) ?_
  refine un_s (by decide) ?_
  refine un_s (by decide) ?_
  refine un_s (by decide) ?_
  refine un_s (by decide) ?_
  refine un_s (by decide) ?_
  refine un_s (by decide) ?_
  refine un_s (by decide) ?_
  refine un_s (by decide) ?_
  refine un_s (by decide) ?_
  refine un_s (by decide) ?_
  refine un_s (by decide) ?_
  refine un_s (by decide) ?_
  rfl
theorem sp_19 (M : MT) : ym_m_past (stepM M) 19 = (ym_m_past M 18) := by
  rw [ps_m_past]
  unfold sM_m_past
  refine un_s (by decide) ?_
  refine un_s (by decide) ?_
  refine un_s (by decide) ?_
  refine un_s (by decide) ?_
  refine un_s (by decide) ?_
  refine un_s (by decide) ?_
  refine un_s (by decide) ?_
  refine un_s (by decide) ?_
  refine un_s (by decide) ?_
  refine un_s (by decide) ?_
  refine un_s (by decide) ?_
  refine un_s (by decide) ?_
  refine un_s (by decide) ?_
  refine un_s (by decide) ?_
  refine un_s (by decide) ?_
  refine un_s (by decide) ?_
  refine un_s (by decide) ?_
  refine un_s (by decide) ?_
  refine un_s (by decide) ?_
  refine ue_s ?_
  refine un_s (by decide) ?_
  refine un_s (by decide) ?_
  refine un_s (by decide) ?_
  refine un_s (by decide) ?_
  refine un_s (by decide) ?_
  refine un_s (by decide) ?_
  refine un_s (by decide) ?_
  refine un_s (by decide) ?_
  refine un_s (by decide) ?_
  refine un_s (by decide) ?_
  refine un_s (by decide) ?_
  refine un_s (by decide) ?_
  refine un_s (by decide) ?_
  rfl
theorem sp_20 (M : MT) : ym_m_past (stepM M) 20 = (ym_m_past M 19) := by
  rw [ps_m_past]
  unfold sM_m_past
  refine un_s (by decide) ?_
  refine un_s (by decide) ?_
  refine un_s (by decide) ?_
  refine un_s (by decide) ?_
  refine un_s (by decide) ?_
  refine un_s (by decide) ?_
  refine un_s (by decide) ?_
  refine un_s (by decide) ?_
  refine un_s (by decide) ?_
  refine un_s (by decide) ?_
  refine un_s (by decide) ?_
  refine un_s (by decide) ?_
  refine un_s (by decide) ?_
  refine un_s (by decide) ?_
  refine un_s (by decide) ?_
  refine un_s (by decide) ?_
  refine un_s (by decide) ?_
  refine un_s (by decide) ?_
  refine un_s (by decide) ?_
  refine un_s (by decide) ?_
  refine ue_s ?_
  refine un_s (by decide) ?_
  refine un_s (by decide) ?_
  refine un_s (by decide) ?_
  refine un_s (by decide) ?_
  refine un_s (by decide) ?_
  refine un_s (by decide) ?_
  refine un_s (by decide) ?_
  refine un_s (by decide) ?_
  refine un_s (by decide) ?_
  refine un_s (by decide) ?_
  refine un_s (by decide) ?_
  refine un_s (by decide) ?_
  rfl
theorem sp_21 (M : MT) : ym_m_past (stepM M) 21 = (ym_m_past M 20) := by
  rw [ps_m_past]
  unfold sM_m_past
  refine un_s (by decide) ?_
  refine un_s (by decide) ?_
  refine un_s (by decide) ?_
  refine un_s (by decide) ?_
  refine un_s (by decide) ?_
  refine un_s (by decide) ?_
  refine un_s (by decide) ?_
  refine un_s (by decide) ?_
  refine un_s (by decide) ?_
  refine un_s (by decide) ?_
  refine un_s (by decide) ?_
  refine un_s (by decide) ?_
  refine un_s (by decide) ?_
  refine un_s (by decide) ?_
  refine un_s (by decide) ?_
  refine un_s (by decide) ?_
  refine un_s (by decide) ?_
  refine un_s (by decide) ?_
  refine un_s (by decide) ?_
  refine un_s (by decide) ?_
  refine un_s (by decide) ?_
  refine ue_s ?_
  refine un_s (by decide) ?_
  refine un_s (by decide) ?_
  refine un_s (by decide) ?_
  refine un_s (by decide) ?_
  refine un_s (by decide) ?_
  refine un_s (by decide) ?_
  refine un_s (by decide) ?_
  refine un_s (by decide) ?_
  refine un_s (by decide) ?_
  refine un_s (by decide) ?_
  refine un_s (by decide) ?_
  rfl
theorem sp_22 (M : MT) : ym_m_past (stepM M) 22 = (pr 2 (pr 1 (pr 0 0 M) (pq 0 0 M)) (pq 1 (pr 0 0 M) (pq 0 0 M))) := by
  rw [ps_m_past]
  unfold sM_m_past
  refine ue_s ?_
  simp only [f_X6_sample_m_gain, f_X6_sample_m_gone, f_X6_sample_m_isStarved, f_X6_sample_m_lastRate, f_X6_sample_ms_samples, f_X6_sample_v10, f_X6_sample_v11, f_X6_sample_v12, f_X6_sample_v13, f_X6_sample_v14, f_X6_sample_v21, f_X6_sample_v22, f_X6_sample_v23, f_X6_sample_v24, f_X6_sample_v25, f_X6_sample_v26, f_X6_sample_v27, f_X6_sample_v28, f_X6_sample_v29, f_X6_sample_v30, f_X6_sample_v31, f_X6_sample_v32, f_X6_sample_v33, f_X6_sample_v34, f_X6_sample_v35, f_X6_sample_v36, f_X6_sample_v4, f_X6_sample_v5, f_X6_sample_v6, f_X6_sample_v7, f_X6_sample_v8, f_X6_sample_v9, pg_ms_samples, pg_m_a1, pg_m_a2, pg_m_b, pg_m_deadTime, pg_m_load, pg_m_measure, pg_m_before, pg_m_past, pg_m_gain, pg_m_low, pg_m_high, pg_m_setpoint, pg_m_integral, pg_m_guard, pg_m_share, pg_m_mode, pg_m_hand, pg_m_follows, pg_m_hasMaster, pg_m_isStarved, pg_m_held, pg_m_sum, pg_m_lastError, pg_m_lastRate, pg_m_goesOn, pg_m_points, pg_m_at, pg_m_then, pg_m_experiment, pg_m_center, pg_m_height, pg_m_band, pg_m_isUp, pg_m_gone, pg_m_risings, pg_m_second, pg_m_greatest, pg_m_least, pg_m_period, pg_m_swing, pg_ms_thrown, pr]
theorem sp_23 (M : MT) : ym_m_past (stepM M) 23 = (ym_m_past M 22) := by
  rw [ps_m_past]
  unfold sM_m_past
  refine un_s (by decide) ?_
  refine ue_s ?_
  refine un_s (by decide) ?_
  refine un_s (by decide) ?_
  refine un_s (by decide) ?_
  refine un_s (by decide) ?_
  refine un_s (by decide) ?_
  refine un_s (by decide) ?_
  refine un_s (by decide) ?_
  refine un_s (by decide) ?_
  refine un_s (by decide) ?_
  refine un_s (by decide) ?_
  refine un_s (by decide) ?_
  refine un_s (by decide) ?_
  refine un_s (by decide) ?_
  refine un_s (by decide) ?_
  refine un_s (by decide) ?_
  refine un_s (by decide) ?_
  refine un_s (by decide) ?_
  refine un_s (by decide) ?_
  refine un_s (by decide) ?_
  refine un_s (by decide) ?_
  refine un_s (by decide) ?_
  refine un_s (by decide) ?_
  refine un_s (by decide) ?_
  refine un_s (by decide) ?_
  refine un_s (by decide) ?_
  refine un_s (by decide) ?_
  refine un_s (by decide) ?_
  refine un_s (by decide) ?_
  refine un_s (by decide) ?_
  refine un_s (by decide) ?_
  refine un_s (by decide) ?_
  rfl
theorem sp_24 (M : MT) : ym_m_past (stepM M) 24 = (ym_m_past M 23) := by
  rw [ps_m_past]
  unfold sM_m_past
  refine un_s (by decide) ?_
  refine un_s (by decide) ?_
  refine ue_s ?_
  refine un_s (by decide) ?_
  refine un_s (by decide) ?_
  refine un_s (by decide) ?_
  refine un_s (by decide) ?_
  refine un_s (by decide) ?_
  refine un_s (by decide) ?_
  refine un_s (by decide) ?_
  refine un_s (by decide) ?_
  refine un_s (by decide) ?_
  refine un_s (by decide) ?_
  refine un_s (by decide) ?_
  refine un_s (by decide) ?_
  refine un_s (by decide) ?_
  refine un_s (by decide) ?_
  refine un_s (by decide) ?_
  refine un_s (by decide) ?_
  refine un_s (by decide) ?_
  refine un_s (by decide) ?_
  refine un_s (by decide) ?_
  refine un_s (by decide) ?_
  refine un_s (by decide) ?_
  refine un_s (by decide) ?_
  refine un_s (by decide) ?_
  refine un_s (by decide) ?_
  refine un_s (by decide) ?_
  refine un_s (by decide) ?_
  refine un_s (by decide) ?_
  refine un_s (by decide) ?_
  refine un_s (by decide) ?_
  refine un_s (by decide) ?_
  rfl
theorem sp_25 (M : MT) : ym_m_past (stepM M) 25 = (ym_m_past M 24) := by
  rw [ps_m_past]
  unfold sM_m_past
  refine un_s (by decide) ?_
  refine un_s (by decide) ?_
  refine un_s (by decide) ?_
  refine ue_s ?_
  refine un_s (by decide) ?_
  refine un_s (by decide) ?_
  refine un_s (by decide) ?_
  refine un_s (by decide) ?_
  refine un_s (by decide) ?_
  refine un_s (by decide) ?_
  refine un_s (by decide) ?_
  refine un_s (by decide) ?_
  refine un_s (by decide) ?_
  refine un_s (by decide) ?_
  refine un_s (by decide) ?_
  refine un_s (by decide) ?_
  refine un_s (by decide) ?_
  refine un_s (by decide) ?_
  refine un_s (by decide) ?_
  refine un_s (by decide) ?_
  refine un_s (by decide) ?_
  refine un_s (by decide) ?_
  refine un_s (by decide) ?_
  refine un_s (by decide) ?_
  refine un_s (by decide) ?_
  refine un_s (by decide) ?_
  refine un_s (by decide) ?_
  refine un_s (by decide) ?_
  refine un_s (by decide) ?_
  refine un_s (by decide) ?_
  refine un_s (by decide) ?_
  refine un_s (by decide) ?_
  refine un_s (by decide) ?_
  rfl
theorem sp_26 (M : MT) : ym_m_past (stepM M) 26 = (ym_m_past M 25) := by
  rw [ps_m_past]
  unfold sM_m_past
  refine un_s (by decide) ?_
  refine un_s (by decide) ?_
  refine un_s (by decide) ?_
  refine un_s (by decide) ?_
  refine ue_s ?_
  refine un_s (by decide) ?_
  refine un_s (by decide) ?_
  refine un_s (by decide) ?_
  refine un_s (by decide) ?_
  refine un_s (by decide) ?_
  refine un_s (by decide) ?_
  refine un_s (by decide) ?_
  refine un_s (by decide) ?_
  refine un_s (by decide) ?_
  refine un_s (by decide) ?_
  refine un_s (by decide) ?_
  refine un_s (by decide) ?_
  refine un_s (by decide) ?_
  refine un_s (by decide) ?_
  refine un_s (by decide) ?_
  refine un_s (by decide) ?_
  refine un_s (by decide) ?_
  refine un_s (by decide) ?_
  refine un_s (by decide) ?_
  refine un_s (by decide) ?_
  refine un_s (by decide) ?_
  refine un_s (by decide) ?_
  refine un_s (by decide) ?_
  refine un_s (by decide) ?_
  refine un_s (by decide) ?_
  refine un_s (by decide) ?_
  refine un_s (by decide) ?_
  refine un_s (by decide) ?_
  rfl
theorem sp_27 (M : MT) : ym_m_past (stepM M) 27 = (ym_m_past M 26) := by
  rw [ps_m_past]
  unfold sM_m_past
  refine un_s (by decide) ?_
  refine un_s (by decide) ?_
  refine un_s (by decide) ?_
  refine un_s (by decide) ?_
  refine un_s (by decide) ?_
  refine ue_s ?_
  refine un_s (by decide) ?_
  refine un_s (by decide) ?_
  refine un_s (by decide) ?_
  refine un_s (by decide) ?_
  refine un_s (by decide) ?_
  refine un_s (by decide) ?_
  refine un_s (by decide) ?_
  refine un_s (by decide) ?_
  refine un_s (by decide) ?_
  refine un_s (by decide) ?_
  refine un_s (by decide) ?_
  refine un_s (by decide) ?_
  refine un_s (by decide) ?_
  refine un_s (by decide) ?_
  refine un_s (by decide) ?_
  refine un_s (by decide) ?_
  refine un_s (by decide) ?_
  refine un_s (by decide) ?_
  refine un_s (by decide) ?_
  refine un_s (by decide) ?_
  refine un_s (by decide) ?_
  refine un_s (by decide) ?_
  refine un_s (by decide) ?_
  refine un_s (by decide) ?_
  refine un_s (by decide) ?_
  refine un_s (by decide) ?_
  refine un_s (by decide) ?_
  rfl
theorem sp_28 (M : MT) : ym_m_past (stepM M) 28 = (ym_m_past M 27) := by
  rw [ps_m_past]
  unfold sM_m_past
  refine un_s (by decide) ?_
  refine un_s (by decide) ?_
  refine un_s (by decide) ?_
  refine un_s (by decide) ?_
  refine un_s (by decide) ?_
  refine un_s (by decide) ?_
  refine ue_s ?_
  refine un_s (by decide) ?_
  refine un_s (by decide) ?_
  refine un_s (by decide) ?_
  refine un_s (by decide) ?_
  refine un_s (by decide) ?_
  refine un_s (by decide) ?_
  refine un_s (by decide) ?_
  refine un_s (by decide) ?_
  refine un_s (by decide) ?_
  refine un_s (by decide) ?_
  refine un_s (by decide) ?_
  refine un_s (by decide) ?_
  refine un_s (by decide) ?_
  refine un_s (by decide) ?_
  refine un_s (by decide) ?_
  refine un_s (by decide) ?_
  refine un_s (by decide) ?_
  refine un_s (by decide) ?_
  refine un_s (by decide) ?_
  refine un_s (by decide) ?_
  refine un_s (by decide) ?_
  refine un_s (by decide) ?_
  refine un_s (by decide) ?_
  refine un_s (by decide) ?_
  refine un_s (by decide) ?_
  refine un_s (by decide) ?_
  rfl
theorem sp_29 (M : MT) : ym_m_past (stepM M) 29 = (ym_m_past M 28) := by
  rw [ps_m_past]
  unfold sM_m_past
  refine un_s (by decide) ?_
  refine un_s (by decide) ?_
  refine un_s (by decide) ?_
  refine un_s (by decide) ?_
  refine un_s (by decide) ?_
  refine un_s (by decide) ?_
  refine un_s (by decide) ?_
  refine ue_s ?_
  refine un_s (by decide) ?_
  refine un_s (by decide) ?_
  refine un_s (by decide) ?_
  refine un_s (by decide) ?_
  refine un_s (by decide) ?_
  refine un_s (by decide) ?_
  refine un_s (by decide) ?_
  refine un_s (by decide) ?_
  refine un_s (by decide) ?_
  refine un_s (by decide) ?_
  refine un_s (by decide) ?_
  refine un_s (by decide) ?_
  refine un_s (by decide) ?_
  refine un_s (by decide) ?_
  refine un_s (by decide) ?_
  refine un_s (by decide) ?_
  refine un_s (by decide) ?_
  refine un_s (by decide) ?_
  refine un_s (by decide) ?_
  refine un_s (by decide) ?_
  refine un_s (by decide) ?_
  refine un_s (by decide) ?_
  refine un_s (by decide) ?_
  refine un_s (by decide) ?_
  refine un_s (by decide) ?_
  rfl
theorem sp_30 (M : MT) : ym_m_past (stepM M) 30 = (ym_m_past M 29) := by
  rw [ps_m_past]
  unfold sM_m_past
  refine un_s (by decide) ?_
  refine un_s (by decide) ?_
  refine un_s (by decide) ?_
  refine un_s (by decide) ?_
  refine un_s (by decide) ?_
  refine un_s (by decide) ?_
  refine un_s (by decide) ?_
  refine un_s (by decide) ?_
  refine ue_s ?_
  refine un_s (by decide) ?_
  refine un_s (by decide) ?_
  refine un_s (by decide) ?_
  refine un_s (by decide) ?_
  refine un_s (by decide) ?_
  refine un_s (by decide) ?_
  refine un_s (by decide) ?_
  refine un_s (by decide) ?_
  refine un_s (by decide) ?_
  refine un_s (by decide) ?_
  refine un_s (by decide) ?_
  refine un_s (by decide) ?_
  refine un_s (by decide) ?_
  refine un_s (by decide) ?_
  refine un_s (by decide) ?_
  refine un_s (by decide) ?_
  refine un_s (by decide) ?_
  refine un_s (by decide) ?_
  refine un_s (by decide) ?_
  refine un_s (by decide) ?_
  refine un_s (by decide) ?_
  refine un_s (by decide) ?_
  refine un_s (by decide) ?_
  refine un_s (by decide) ?_
  rfl
theorem sp_31 (M : MT) : ym_m_past (stepM M) 31 = (ym_m_past M 30) := by
  rw [ps_m_past]
  unfold sM_m_past
  refine un_s (by decide) ?_
  refine un_s (by decide) ?_
  refine un_s (by decide) ?_
  refine un_s (by decide) ?_
  refine un_s (by decide) ?_
  refine un_s (by decide) ?_
  refine un_s (by decide) ?_
  refine un_s (by decide) ?_
  refine un_s (by decide) ?_
  refine ue_s ?_
  refine un_s (by decide) ?_
  refine un_s (by decide) ?_
  refine un_s (by decide) ?_
  refine un_s (by decide) ?_
  refine un_s (by decide) ?_
  refine un_s (by decide) ?_
  refine un_s (by decide) ?_
  refine un_s (by decide) ?_
  refine un_s (by decide) ?_
  refine un_s (by decide) ?_
  refine un_s (by decide) ?_
  refine un_s (by decide) ?_
  refine un_s (by decide) ?_
  refine un_s (by decide) ?_
  refine un_s (by decide) ?_
  refine un_s (by decide) ?_
  refine un_s (by decide) ?_
  refine un_s (by decide) ?_
  refine un_s (by decide) ?_
  refine un_s (by decide) ?_
  refine un_s (by decide) ?_
  refine un_s (by decide) ?_
  refine un_s (by decide) ?_
  rfl
theorem sp_32 (M : MT) : ym_m_past (stepM M) 32 = (ym_m_past M 31) := by
  rw [ps_m_past]
  unfold sM_m_past
  refine un_s (by decide) ?_
  refine un_s (by decide) ?_
  refine un_s (by decide) ?_
  refine un_s (by decide) ?_
  refine un_s (by decide) ?_
  refine un_s (by decide) ?_
  refine un_s (by decide) ?_
  refine un_s (by decide) ?_
  refine un_s (by decide) ?_
  refine un_s (by decide) ?_
  refine ue_s ?_
  refine un_s (by decide) ?_
  refine un_s (by decide) ?_
  refine un_s (by decide) ?_
  refine un_s (by decide) ?_
  refine un_s (by decide) ?_
  refine un_s (by decide) ?_
  refine un_s (by decide) ?_
  refine un_s (by decide) ?_
  refine un_s (by decide) ?_
  refine un_s (by decide) ?_
  refine un_s (by decide) ?_
  refine un_s (by decide) ?_
  refine un_s (by decide) ?_
  refine un_s (by decide) ?_
  refine un_s (by decide) ?_
  refine un_s (by decide) ?_
  refine un_s (by decide) ?_
  refine un_s (by decide) ?_
  refine un_s (by decide) ?_
  refine un_s (by decide) ?_
  refine un_s (by decide) ?_
  refine un_s (by decide) ?_
  rfl
theorem sm_0 (M : MT) : ym_m_measure (stepM M) 0 = f_X6_within_j1_1 ((f_X6_floor_j1_1 (((ym_m_a1 M 0 * ym_m_measure M 0) + (ym_m_a2 M 0 * ym_m_before M 0)) + (ym_m_b M 0 * (ym_m_past (stepM M) ((0 : Int32) + (ym_m_deadTime M 0)).toNatClampNeg))) (1000 : Int64)) + (ym_m_load M 0).toInt64) (-1000000 : Int64) (1000000 : Int64) := by
  rw [ps_m_measure]
  unfold sM_m_measure
  refine un_s (by decide) ?_
  refine un_s (by decide) ?_
  refine ue_s ?_
  rw [ps_m_past]
  unfold sM_m_past f_X6_sample_v48
  rfl
theorem sb_0 (M : MT) : ym_m_before (stepM M) 0 = ym_m_measure M 0 := by
  rw [ps_m_before]
  unfold sM_m_before
  refine un_s (by decide) ?_
  refine un_s (by decide) ?_
  refine ue_s ?_
  rfl
theorem sm_1 (M : MT) : ym_m_measure (stepM M) 1 = f_X6_within_j1_1 ((f_X6_floor_j1_1 (((ym_m_a1 M 1 * ym_m_measure M 1) + (ym_m_a2 M 1 * ym_m_before M 1)) + (ym_m_b M 1 * (ym_m_past (stepM M) ((11 : Int32) + (ym_m_deadTime M 1)).toNatClampNeg))) (1000 : Int64)) + (ym_m_load M 1).toInt64) (-1000000 : Int64) (1000000 : Int64) := by
  rw [ps_m_measure]
  unfold sM_m_measure
  refine un_s (by decide) ?_
  refine ue_s ?_
  have e1 : ∀ x : Int64, vp_updL (ym_m_measure M) (0 : Int32).toNatClampNeg x 1 = ym_m_measure M 1 := fun x => ul_ne _ _ (by decide)
  have e2 : ∀ x : Int64, vp_updL (ym_m_before M) (0 : Int32).toNatClampNeg x 1 = ym_m_before M 1 := fun x => ul_ne _ _ (by decide)
  unfold f_X6_sample_v49
  rw [show ∀ x : Int64, vp_updL (ym_m_measure M) (0 : Int32).toNatClampNeg x (1 : Int32).toNatClampNeg = ym_m_measure M 1 from e1, show ∀ x : Int64, vp_updL (ym_m_before M) (0 : Int32).toNatClampNeg x (1 : Int32).toNatClampNeg = ym_m_before M 1 from e2]
  rw [ps_m_past]
  unfold sM_m_past
  rfl
theorem sb_1 (M : MT) : ym_m_before (stepM M) 1 = ym_m_measure M 1 := by
  rw [ps_m_before]
  unfold sM_m_before
  refine un_s (by decide) ?_
  refine ue_s ?_
  exact ul_ne _ _ (by decide)
theorem sm_2 (M : MT) : ym_m_measure (stepM M) 2 = f_X6_within_j1_1 ((f_X6_floor_j1_1 (((ym_m_a1 M 2 * ym_m_measure M 2) + (ym_m_a2 M 2 * ym_m_before M 2)) + (ym_m_b M 2 * (ym_m_past (stepM M) ((22 : Int32) + (ym_m_deadTime M 2)).toNatClampNeg))) (1000 : Int64)) + (ym_m_load M 2).toInt64) (-1000000 : Int64) (1000000 : Int64) := by
  rw [ps_m_measure]
  unfold sM_m_measure
  refine ue_s ?_
  have e1 : ∀ x : Int64, vp_updL (ym_m_measure M) (0 : Int32).toNatClampNeg x 2 = ym_m_measure M 2 := fun x => ul_ne _ _ (by decide)
  have e2 : ∀ x : Int64, vp_updL (ym_m_before M) (0 : Int32).toNatClampNeg x 2 = ym_m_before M 2 := fun x => ul_ne _ _ (by decide)
  unfold f_X6_sample_v52 f_X6_sample_v51 f_X6_sample_v50
  rw [show ∀ x y : Int64, vp_updL (vp_updL (ym_m_measure M) (0 : Int32).toNatClampNeg x) (1 : Int32).toNatClampNeg y (2 : Int32).toNatClampNeg = ym_m_measure M 2 from fun x y => un_s (by decide) (e1 x), show ∀ x y : Int64, vp_updL (vp_updL (ym_m_before M) (0 : Int32).toNatClampNeg x) (1 : Int32).toNatClampNeg y (2 : Int32).toNatClampNeg = ym_m_before M 2 from fun x y => un_s (by decide) (e2 x)]
  rw [ps_m_past]
  unfold sM_m_past
  rfl
theorem sb_2 (M : MT) : ym_m_before (stepM M) 2 = ym_m_measure M 2 := by
  rw [ps_m_before]
  unfold sM_m_before
  refine ue_s ?_
  exact un_s (by decide) (un_s (by decide) rfl)
