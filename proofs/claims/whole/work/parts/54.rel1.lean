section RO
variable {T : LT × LT × LT} {bs : Int32} {M : MT}
set_option maxHeartbeats 1000000 in
theorem rel_setPlant_0 (hR : Rel T bs M) (a1v : Int32) (a2v : Int32) (bv : Int32) (dtv : Int32) : rm_thrown (um_setPlant M 0 a1v a2v bv dtv) = lr_setPlant T.1 a1v a2v bv dtv ∧ Rel ((lu_setPlant T.1 a1v a2v bv dtv), T.2.1, T.2.2) bs (um_setPlant M 0 a1v a2v bv dtv) := by
  obtain ⟨h_bs, h_a1, h_a2, h_b, h_deadTime, h_load, h_measure, h_before, h_low, h_high, h_setpoint, h_integral, h_guard, h_share, h_mode, h_hand, h_follows, h_hasMaster, h_isStarved, h_held, h_sum, h_lastError, h_lastRate, h_experiment, h_center, h_height, h_band, h_isUp, h_gone, h_risings, h_second, h_greatest, h_least, h_period, h_swing, h_gain, h_past, h_go, h_sched, h_i_lim, h_i_gb, h_i_md, h_i_dt, h_i_me, h_i_st, h_i_up, h_i_gl, h_i_sw, h_i_rl, h_i_m0⟩ := Rel_iff.mp hR
  have hcd : (f_X6_setPlant_j2_1 0 a1v a2v bv dtv) = wr12 (f_X5_setPlant_x a1v a2v bv dtv) := cd_setPlant il_0
  by_cases hc : (f_X5_setPlant_x a1v a2v bv dtv) = 0
  · have hz : ¬ f_X6_can_j1_1 (f_X6_setPlant_j2_1 0 a1v a2v bv dtv) = 0 := can_ok (by rw [hcd]; exact w12_0 hc)
    refine ⟨?_, h_bs, ?_, ?_, ?_, ?_, h_load, h_measure, h_before, h_low, h_high, h_setpoint, h_integral, h_guard, h_share, h_mode, h_hand, h_follows, h_hasMaster, h_isStarved, h_held, h_sum, h_lastError, h_lastRate, h_experiment, h_center, h_height, h_band, h_isUp, h_gone, h_risings, h_second, h_greatest, h_least, h_period, h_swing, h_gain, h_past, h_go, h_sched, h_i_lim, h_i_gb, h_i_md, ?_, h_i_me, h_i_st, h_i_up, h_i_gl, h_i_sw, h_i_rl, h_i_m0⟩
    · show (f_X6_setPlant_j2_1 0 a1v a2v bv dtv) = f_L_setPlant_r a1v a2v bv dtv
      rw [hcd]; unfold f_L_setPlant_r; rw [if_pos hc]; exact w12_0 hc
    · show e3 (f_X6_setPlant_j3_1 (ym_m_a1 M) 0 a1v a2v bv dtv) (f_L_setPlant_pa1 (yl_pa1 T.1) a1v a2v bv dtv).toInt64 (yl_pa1 T.2.1).toInt64 (yl_pa1 T.2.2).toInt64
      simp only [f_L_setPlant_pa1, f_X6_setPlant_j3_1, if_pos hc, if_neg hz]
      exact ⟨(ul_eq _ _ _), ((ul_ne _ _ (by decide)).trans h_a1.2.1), ((ul_ne _ _ (by decide)).trans h_a1.2.2)⟩
    · show e3 (f_X6_setPlant_j3_2 (ym_m_a2 M) 0 a1v a2v bv dtv) (f_L_setPlant_pa2 (yl_pa2 T.1) a1v a2v bv dtv).toInt64 (yl_pa2 T.2.1).toInt64 (yl_pa2 T.2.2).toInt64
      simp only [f_L_setPlant_pa2, f_X6_setPlant_j3_2, if_pos hc, if_neg hz]
      exact ⟨(ul_eq _ _ _), ((ul_ne _ _ (by decide)).trans h_a2.2.1), ((ul_ne _ _ (by decide)).trans h_a2.2.2)⟩
    · show e3 (f_X6_setPlant_j3_3 (ym_m_b M) 0 a1v a2v bv dtv) (f_L_setPlant_pb (yl_pb T.1) a1v a2v bv dtv).toInt64 (yl_pb T.2.1).toInt64 (yl_pb T.2.2).toInt64
      simp only [f_L_setPlant_pb, f_X6_setPlant_j3_3, if_pos hc, if_neg hz]
      exact ⟨(ul_eq _ _ _), ((ul_ne _ _ (by decide)).trans h_b.2.1), ((ul_ne _ _ (by decide)).trans h_b.2.2)⟩
    · show e3 (f_X6_setPlant_j3_4 (ym_m_deadTime M) 0 a1v a2v bv dtv) (f_L_setPlant_pdt (yl_pdt T.1) a1v a2v bv dtv) (yl_pdt T.2.1) (yl_pdt T.2.2)
      simp only [f_L_setPlant_pdt, f_X6_setPlant_j3_4, if_pos hc, if_neg hz]
      exact ⟨(u_eq _ _ _), ((u_ne _ _ (by decide)).trans h_deadTime.2.1), ((u_ne _ _ (by decide)).trans h_deadTime.2.2)⟩
    · show (Idt (f_L_setPlant_pdt (yl_pdt T.1) a1v a2v bv dtv)) ∧ (Idt (yl_pdt T.2.1)) ∧ (Idt (yl_pdt T.2.2))
      simp only [f_L_setPlant_pdt, if_pos hc]
      exact ⟨pl_ok hc, h_i_dt.2.1, h_i_dt.2.2⟩
  · have hz : f_X6_can_j1_1 (f_X6_setPlant_j2_1 0 a1v a2v bv dtv) = 0 := can_no (by rw [hcd]; exact w12_n hc)
    refine ⟨?_, h_bs, ?_, ?_, ?_, ?_, h_load, h_measure, h_before, h_low, h_high, h_setpoint, h_integral, h_guard, h_share, h_mode, h_hand, h_follows, h_hasMaster, h_isStarved, h_held, h_sum, h_lastError, h_lastRate, h_experiment, h_center, h_height, h_band, h_isUp, h_gone, h_risings, h_second, h_greatest, h_least, h_period, h_swing, h_gain, h_past, h_go, h_sched, h_i_lim, h_i_gb, h_i_md, ?_, h_i_me, h_i_st, h_i_up, h_i_gl, h_i_sw, h_i_rl, h_i_m0⟩
    · show (f_X6_setPlant_j2_1 0 a1v a2v bv dtv) = f_L_setPlant_r a1v a2v bv dtv
      rw [hcd]; unfold f_L_setPlant_r; rw [if_neg hc]
    · show e3 (f_X6_setPlant_j3_1 (ym_m_a1 M) 0 a1v a2v bv dtv) (f_L_setPlant_pa1 (yl_pa1 T.1) a1v a2v bv dtv).toInt64 (yl_pa1 T.2.1).toInt64 (yl_pa1 T.2.2).toInt64
      simp only [f_L_setPlant_pa1, f_X6_setPlant_j3_1, if_neg hc, if_pos hz]
      exact h_a1
    · show e3 (f_X6_setPlant_j3_2 (ym_m_a2 M) 0 a1v a2v bv dtv) (f_L_setPlant_pa2 (yl_pa2 T.1) a1v a2v bv dtv).toInt64 (yl_pa2 T.2.1).toInt64 (yl_pa2 T.2.2).toInt64
      simp only [f_L_setPlant_pa2, f_X6_setPlant_j3_2, if_neg hc, if_pos hz]
      exact h_a2
    · show e3 (f_X6_setPlant_j3_3 (ym_m_b M) 0 a1v a2v bv dtv) (f_L_setPlant_pb (yl_pb T.1) a1v a2v bv dtv).toInt64 (yl_pb T.2.1).toInt64 (yl_pb T.2.2).toInt64
      simp only [f_L_setPlant_pb, f_X6_setPlant_j3_3, if_neg hc, if_pos hz]
      exact h_b
    · show e3 (f_X6_setPlant_j3_4 (ym_m_deadTime M) 0 a1v a2v bv dtv) (f_L_setPlant_pdt (yl_pdt T.1) a1v a2v bv dtv) (yl_pdt T.2.1) (yl_pdt T.2.2)
      simp only [f_L_setPlant_pdt, f_X6_setPlant_j3_4, if_neg hc, if_pos hz]
      exact h_deadTime
    · show (Idt (f_L_setPlant_pdt (yl_pdt T.1) a1v a2v bv dtv)) ∧ (Idt (yl_pdt T.2.1)) ∧ (Idt (yl_pdt T.2.2))
      simp only [f_L_setPlant_pdt, if_neg hc]
      exact h_i_dt
set_option maxHeartbeats 1000000 in
theorem rel_setPlant_1 (hR : Rel T bs M) (a1v : Int32) (a2v : Int32) (bv : Int32) (dtv : Int32) : rm_thrown (um_setPlant M 1 a1v a2v bv dtv) = lr_setPlant T.2.1 a1v a2v bv dtv ∧ Rel (T.1, (lu_setPlant T.2.1 a1v a2v bv dtv), T.2.2) bs (um_setPlant M 1 a1v a2v bv dtv) := by
  obtain ⟨h_bs, h_a1, h_a2, h_b, h_deadTime, h_load, h_measure, h_before, h_low, h_high, h_setpoint, h_integral, h_guard, h_share, h_mode, h_hand, h_follows, h_hasMaster, h_isStarved, h_held, h_sum, h_lastError, h_lastRate, h_experiment, h_center, h_height, h_band, h_isUp, h_gone, h_risings, h_second, h_greatest, h_least, h_period, h_swing, h_gain, h_past, h_go, h_sched, h_i_lim, h_i_gb, h_i_md, h_i_dt, h_i_me, h_i_st, h_i_up, h_i_gl, h_i_sw, h_i_rl, h_i_m0⟩ := Rel_iff.mp hR
  have hcd : (f_X6_setPlant_j2_1 1 a1v a2v bv dtv) = wr12 (f_X5_setPlant_x a1v a2v bv dtv) := cd_setPlant il_1
  by_cases hc : (f_X5_setPlant_x a1v a2v bv dtv) = 0
  · have hz : ¬ f_X6_can_j1_1 (f_X6_setPlant_j2_1 1 a1v a2v bv dtv) = 0 := can_ok (by rw [hcd]; exact w12_0 hc)
    refine ⟨?_, h_bs, ?_, ?_, ?_, ?_, h_load, h_measure, h_before, h_low, h_high, h_setpoint, h_integral, h_guard, h_share, h_mode, h_hand, h_follows, h_hasMaster, h_isStarved, h_held, h_sum, h_lastError, h_lastRate, h_experiment, h_center, h_height, h_band, h_isUp, h_gone, h_risings, h_second, h_greatest, h_least, h_period, h_swing, h_gain, h_past, h_go, h_sched, h_i_lim, h_i_gb, h_i_md, ?_, h_i_me, h_i_st, h_i_up, h_i_gl, h_i_sw, h_i_rl, h_i_m0⟩
    · show (f_X6_setPlant_j2_1 1 a1v a2v bv dtv) = f_L_setPlant_r a1v a2v bv dtv
      rw [hcd]; unfold f_L_setPlant_r; rw [if_pos hc]; exact w12_0 hc
    · show e3 (f_X6_setPlant_j3_1 (ym_m_a1 M) 1 a1v a2v bv dtv) (yl_pa1 T.1).toInt64 (f_L_setPlant_pa1 (yl_pa1 T.2.1) a1v a2v bv dtv).toInt64 (yl_pa1 T.2.2).toInt64
      simp only [f_L_setPlant_pa1, f_X6_setPlant_j3_1, if_pos hc, if_neg hz]
      exact ⟨((ul_ne _ _ (by decide)).trans h_a1.1), (ul_eq _ _ _), ((ul_ne _ _ (by decide)).trans h_a1.2.2)⟩
    · show e3 (f_X6_setPlant_j3_2 (ym_m_a2 M) 1 a1v a2v bv dtv) (yl_pa2 T.1).toInt64 (f_L_setPlant_pa2 (yl_pa2 T.2.1) a1v a2v bv dtv).toInt64 (yl_pa2 T.2.2).toInt64
      simp only [f_L_setPlant_pa2, f_X6_setPlant_j3_2, if_pos hc, if_neg hz]
      exact ⟨((ul_ne _ _ (by decide)).trans h_a2.1), (ul_eq _ _ _), ((ul_ne _ _ (by decide)).trans h_a2.2.2)⟩
    · show e3 (f_X6_setPlant_j3_3 (ym_m_b M) 1 a1v a2v bv dtv) (yl_pb T.1).toInt64 (f_L_setPlant_pb (yl_pb T.2.1) a1v a2v bv dtv).toInt64 (yl_pb T.2.2).toInt64
      simp only [f_L_setPlant_pb, f_X6_setPlant_j3_3, if_pos hc, if_neg hz]
      exact ⟨((ul_ne _ _ (by decide)).trans h_b.1), (ul_eq _ _ _), ((ul_ne _ _ (by decide)).trans h_b.2.2)⟩
    · show e3 (f_X6_setPlant_j3_4 (ym_m_deadTime M) 1 a1v a2v bv dtv) (yl_pdt T.1) (f_L_setPlant_pdt (yl_pdt T.2.1) a1v a2v bv dtv) (yl_pdt T.2.2)
      simp only [f_L_setPlant_pdt, f_X6_setPlant_j3_4, if_pos hc, if_neg hz]
      exact ⟨((u_ne _ _ (by decide)).trans h_deadTime.1), (u_eq _ _ _), ((u_ne _ _ (by decide)).trans h_deadTime.2.2)⟩
    · show (Idt (yl_pdt T.1)) ∧ (Idt (f_L_setPlant_pdt (yl_pdt T.2.1) a1v a2v bv dtv)) ∧ (Idt (yl_pdt T.2.2))
      simp only [f_L_setPlant_pdt, if_pos hc]
      exact ⟨h_i_dt.1, pl_ok hc, h_i_dt.2.2⟩
  · have hz : f_X6_can_j1_1 (f_X6_setPlant_j2_1 1 a1v a2v bv dtv) = 0 := can_no (by rw [hcd]; exact w12_n hc)
    refine ⟨?_, h_bs, ?_, ?_, ?_, ?_, h_load, h_measure, h_before, h_low, h_high, h_setpoint, h_integral, h_guard, h_share, h_mode, h_hand, h_follows, h_hasMaster, h_isStarved, h_held, h_sum, h_lastError, h_lastRate, h_experiment, h_center, h_height, h_band, h_isUp, h_gone, h_risings, h_second, h_greatest, h_least, h_period, h_swing, h_gain, h_past, h_go, h_sched, h_i_lim, h_i_gb, h_i_md, ?_, h_i_me, h_i_st, h_i_up, h_i_gl, h_i_sw, h_i_rl, h_i_m0⟩
    · show (f_X6_setPlant_j2_1 1 a1v a2v bv dtv) = f_L_setPlant_r a1v a2v bv dtv
      rw [hcd]; unfold f_L_setPlant_r; rw [if_neg hc]
    · show e3 (f_X6_setPlant_j3_1 (ym_m_a1 M) 1 a1v a2v bv dtv) (yl_pa1 T.1).toInt64 (f_L_setPlant_pa1 (yl_pa1 T.2.1) a1v a2v bv dtv).toInt64 (yl_pa1 T.2.2).toInt64
      simp only [f_L_setPlant_pa1, f_X6_setPlant_j3_1, if_neg hc, if_pos hz]
      exact h_a1
    · show e3 (f_X6_setPlant_j3_2 (ym_m_a2 M) 1 a1v a2v bv dtv) (yl_pa2 T.1).toInt64 (f_L_setPlant_pa2 (yl_pa2 T.2.1) a1v a2v bv dtv).toInt64 (yl_pa2 T.2.2).toInt64
      simp only [f_L_setPlant_pa2, f_X6_setPlant_j3_2, if_neg hc, if_pos hz]
      exact h_a2
    · show e3 (f_X6_setPlant_j3_3 (ym_m_b M) 1 a1v a2v bv dtv) (yl_pb T.1).toInt64 (f_L_setPlant_pb (yl_pb T.2.1) a1v a2v bv dtv).toInt64 (yl_pb T.2.2).toInt64
      simp only [f_L_setPlant_pb, f_X6_setPlant_j3_3, if_neg hc, if_pos hz]
      exact h_b
    · show e3 (f_X6_setPlant_j3_4 (ym_m_deadTime M) 1 a1v a2v bv dtv) (yl_pdt T.1) (f_L_setPlant_pdt (yl_pdt T.2.1) a1v a2v bv dtv) (yl_pdt T.2.2)
      simp only [f_L_setPlant_pdt, f_X6_setPlant_j3_4, if_neg hc, if_pos hz]
      exact h_deadTime
    · show (Idt (yl_pdt T.1)) ∧ (Idt (f_L_setPlant_pdt (yl_pdt T.2.1) a1v a2v bv dtv)) ∧ (Idt (yl_pdt T.2.2))
      simp only [f_L_setPlant_pdt, if_neg hc]
      exact h_i_dt
set_option maxHeartbeats 1000000 in
theorem rel_setPlant_2 (hR : Rel T bs M) (a1v : Int32) (a2v : Int32) (bv : Int32) (dtv : Int32) : rm_thrown (um_setPlant M 2 a1v a2v bv dtv) = lr_setPlant T.2.2 a1v a2v bv dtv ∧ Rel (T.1, T.2.1, (lu_setPlant T.2.2 a1v a2v bv dtv)) bs (um_setPlant M 2 a1v a2v bv dtv) := by
  obtain ⟨h_bs, h_a1, h_a2, h_b, h_deadTime, h_load, h_measure, h_before, h_low, h_high, h_setpoint, h_integral, h_guard, h_share, h_mode, h_hand, h_follows, h_hasMaster, h_isStarved, h_held, h_sum, h_lastError, h_lastRate, h_experiment, h_center, h_height, h_band, h_isUp, h_gone, h_risings, h_second, h_greatest, h_least, h_period, h_swing, h_gain, h_past, h_go, h_sched, h_i_lim, h_i_gb, h_i_md, h_i_dt, h_i_me, h_i_st, h_i_up, h_i_gl, h_i_sw, h_i_rl, h_i_m0⟩ := Rel_iff.mp hR
  have hcd : (f_X6_setPlant_j2_1 2 a1v a2v bv dtv) = wr12 (f_X5_setPlant_x a1v a2v bv dtv) := cd_setPlant il_2
  by_cases hc : (f_X5_setPlant_x a1v a2v bv dtv) = 0
  · have hz : ¬ f_X6_can_j1_1 (f_X6_setPlant_j2_1 2 a1v a2v bv dtv) = 0 := can_ok (by rw [hcd]; exact w12_0 hc)
    refine ⟨?_, h_bs, ?_, ?_, ?_, ?_, h_load, h_measure, h_before, h_low, h_high, h_setpoint, h_integral, h_guard, h_share, h_mode, h_hand, h_follows, h_hasMaster, h_isStarved, h_held, h_sum, h_lastError, h_lastRate, h_experiment, h_center, h_height, h_band, h_isUp, h_gone, h_risings, h_second, h_greatest, h_least, h_period, h_swing, h_gain, h_past, h_go, h_sched, h_i_lim, h_i_gb, h_i_md, ?_, h_i_me, h_i_st, h_i_up, h_i_gl, h_i_sw, h_i_rl, h_i_m0⟩
    · show (f_X6_setPlant_j2_1 2 a1v a2v bv dtv) = f_L_setPlant_r a1v a2v bv dtv
      rw [hcd]; unfold f_L_setPlant_r; rw [if_pos hc]; exact w12_0 hc
    · show e3 (f_X6_setPlant_j3_1 (ym_m_a1 M) 2 a1v a2v bv dtv) (yl_pa1 T.1).toInt64 (yl_pa1 T.2.1).toInt64 (f_L_setPlant_pa1 (yl_pa1 T.2.2) a1v a2v bv dtv).toInt64
      simp only [f_L_setPlant_pa1, f_X6_setPlant_j3_1, if_pos hc, if_neg hz]
      exact ⟨((ul_ne _ _ (by decide)).trans h_a1.1), ((ul_ne _ _ (by decide)).trans h_a1.2.1), (ul_eq _ _ _)⟩
    · show e3 (f_X6_setPlant_j3_2 (ym_m_a2 M) 2 a1v a2v bv dtv) (yl_pa2 T.1).toInt64 (yl_pa2 T.2.1).toInt64 (f_L_setPlant_pa2 (yl_pa2 T.2.2) a1v a2v bv dtv).toInt64
      simp only [f_L_setPlant_pa2, f_X6_setPlant_j3_2, if_pos hc, if_neg hz]
      exact ⟨((ul_ne _ _ (by decide)).trans h_a2.1), ((ul_ne _ _ (by decide)).trans h_a2.2.1), (ul_eq _ _ _)⟩
    · show e3 (f_X6_setPlant_j3_3 (ym_m_b M) 2 a1v a2v bv dtv) (yl_pb T.1).toInt64 (yl_pb T.2.1).toInt64 (f_L_setPlant_pb (yl_pb T.2.2) a1v a2v bv dtv).toInt64
      simp only [f_L_setPlant_pb, f_X6_setPlant_j3_3, if_pos hc, if_neg hz]
      exact ⟨((ul_ne _ _ (by decide)).trans h_b.1), ((ul_ne _ _ (by decide)).trans h_b.2.1), (ul_eq _ _ _)⟩
    · show e3 (f_X6_setPlant_j3_4 (ym_m_deadTime M) 2 a1v a2v bv dtv) (yl_pdt T.1) (yl_pdt T.2.1) (f_L_setPlant_pdt (yl_pdt T.2.2) a1v a2v bv dtv)
      simp only [f_L_setPlant_pdt, f_X6_setPlant_j3_4, if_pos hc, if_neg hz]
      exact ⟨((u_ne _ _ (by decide)).trans h_deadTime.1), ((u_ne _ _ (by decide)).trans h_deadTime.2.1), (u_eq _ _ _)⟩
    · show (Idt (yl_pdt T.1)) ∧ (Idt (yl_pdt T.2.1)) ∧ (Idt (f_L_setPlant_pdt (yl_pdt T.2.2) a1v a2v bv dtv))
      simp only [f_L_setPlant_pdt, if_pos hc]
      exact ⟨h_i_dt.1, h_i_dt.2.1, pl_ok hc⟩
  · have hz : f_X6_can_j1_1 (f_X6_setPlant_j2_1 2 a1v a2v bv dtv) = 0 := can_no (by rw [hcd]; exact w12_n hc)
    refine ⟨?_, h_bs, ?_, ?_, ?_, ?_, h_load, h_measure, h_before, h_low, h_high, h_setpoint, h_integral, h_guard, h_share, h_mode, h_hand, h_follows, h_hasMaster, h_isStarved, h_held, h_sum, h_lastError, h_lastRate, h_experiment, h_center, h_height, h_band, h_isUp, h_gone, h_risings, h_second, h_greatest, h_least, h_period, h_swing, h_gain, h_past, h_go, h_sched, h_i_lim, h_i_gb, h_i_md, ?_, h_i_me, h_i_st, h_i_up, h_i_gl, h_i_sw, h_i_rl, h_i_m0⟩
    · show (f_X6_setPlant_j2_1 2 a1v a2v bv dtv) = f_L_setPlant_r a1v a2v bv dtv
      rw [hcd]; unfold f_L_setPlant_r; rw [if_neg hc]
    · show e3 (f_X6_setPlant_j3_1 (ym_m_a1 M) 2 a1v a2v bv dtv) (yl_pa1 T.1).toInt64 (yl_pa1 T.2.1).toInt64 (f_L_setPlant_pa1 (yl_pa1 T.2.2) a1v a2v bv dtv).toInt64
      simp only [f_L_setPlant_pa1, f_X6_setPlant_j3_1, if_neg hc, if_pos hz]
      exact h_a1
    · show e3 (f_X6_setPlant_j3_2 (ym_m_a2 M) 2 a1v a2v bv dtv) (yl_pa2 T.1).toInt64 (yl_pa2 T.2.1).toInt64 (f_L_setPlant_pa2 (yl_pa2 T.2.2) a1v a2v bv dtv).toInt64
      simp only [f_L_setPlant_pa2, f_X6_setPlant_j3_2, if_neg hc, if_pos hz]
      exact h_a2
    · show e3 (f_X6_setPlant_j3_3 (ym_m_b M) 2 a1v a2v bv dtv) (yl_pb T.1).toInt64 (yl_pb T.2.1).toInt64 (f_L_setPlant_pb (yl_pb T.2.2) a1v a2v bv dtv).toInt64
      simp only [f_L_setPlant_pb, f_X6_setPlant_j3_3, if_neg hc, if_pos hz]
      exact h_b
    · show e3 (f_X6_setPlant_j3_4 (ym_m_deadTime M) 2 a1v a2v bv dtv) (yl_pdt T.1) (yl_pdt T.2.1) (f_L_setPlant_pdt (yl_pdt T.2.2) a1v a2v bv dtv)
      simp only [f_L_setPlant_pdt, f_X6_setPlant_j3_4, if_neg hc, if_pos hz]
      exact h_deadTime
    · show (Idt (yl_pdt T.1)) ∧ (Idt (yl_pdt T.2.1)) ∧ (Idt (f_L_setPlant_pdt (yl_pdt T.2.2) a1v a2v bv dtv))
      simp only [f_L_setPlant_pdt, if_neg hc]
      exact h_i_dt
theorem rel_setPlant (hR : Rel T bs M) (lp : Int32) (a1v : Int32) (a2v : Int32) (bv : Int32) (dtv : Int32) : rm_thrown (um_setPlant M lp a1v a2v bv dtv) = ofL T lp (fun s => lr_setPlant s a1v a2v bv dtv) 1 ∧ Rel (onL T lp (fun s => lu_setPlant s a1v a2v bv dtv)) bs (um_setPlant M lp a1v a2v bv dtv) := by
  by_cases h0 : lp = 0
  · subst h0
    rw [ofL_0, onL_0]
    exact rel_setPlant_0 hR a1v a2v bv dtv
  by_cases h1 : lp = 1
  · subst h1
    rw [ofL_1, onL_1]
    exact rel_setPlant_1 hR a1v a2v bv dtv
  by_cases h2 : lp = 2
  · subst h2
    rw [ofL_2, onL_2]
    exact rel_setPlant_2 hR a1v a2v bv dtv
  rw [ofL_o T _ _ h0 h1 h2, onL_o T _ h0 h1 h2]
  have hcd : (f_X6_setPlant_j2_1 lp a1v a2v bv dtv) = 1 := by simp only [f_X6_setPlant_j2_1, il_o h0 h1 h2]; rfl
  have hz : f_X6_can_j1_1 (f_X6_setPlant_j2_1 lp a1v a2v bv dtv) = 0 := can_no (by rw [hcd]; decide)
  obtain ⟨h_bs, h_a1, h_a2, h_b, h_deadTime, h_load, h_measure, h_before, h_low, h_high, h_setpoint, h_integral, h_guard, h_share, h_mode, h_hand, h_follows, h_hasMaster, h_isStarved, h_held, h_sum, h_lastError, h_lastRate, h_experiment, h_center, h_height, h_band, h_isUp, h_gone, h_risings, h_second, h_greatest, h_least, h_period, h_swing, h_gain, h_past, h_go, h_sched, h_i_lim, h_i_gb, h_i_md, h_i_dt, h_i_me, h_i_st, h_i_up, h_i_gl, h_i_sw, h_i_rl, h_i_m0⟩ := Rel_iff.mp hR
  refine ⟨hcd, h_bs, ?_, ?_, ?_, ?_, h_load, h_measure, h_before, h_low, h_high, h_setpoint, h_integral, h_guard, h_share, h_mode, h_hand, h_follows, h_hasMaster, h_isStarved, h_held, h_sum, h_lastError, h_lastRate, h_experiment, h_center, h_height, h_band, h_isUp, h_gone, h_risings, h_second, h_greatest, h_least, h_period, h_swing, h_gain, h_past, h_go, h_sched, h_i_lim, h_i_gb, h_i_md, h_i_dt, h_i_me, h_i_st, h_i_up, h_i_gl, h_i_sw, h_i_rl, h_i_m0⟩
  · show e3 (f_X6_setPlant_j3_1 (ym_m_a1 M) lp a1v a2v bv dtv) (yl_pa1 T.1).toInt64 (yl_pa1 T.2.1).toInt64 (yl_pa1 T.2.2).toInt64
    simp only [f_X6_setPlant_j3_1, if_pos hz]
    exact h_a1
  · show e3 (f_X6_setPlant_j3_2 (ym_m_a2 M) lp a1v a2v bv dtv) (yl_pa2 T.1).toInt64 (yl_pa2 T.2.1).toInt64 (yl_pa2 T.2.2).toInt64
    simp only [f_X6_setPlant_j3_2, if_pos hz]
    exact h_a2
  · show e3 (f_X6_setPlant_j3_3 (ym_m_b M) lp a1v a2v bv dtv) (yl_pb T.1).toInt64 (yl_pb T.2.1).toInt64 (yl_pb T.2.2).toInt64
    simp only [f_X6_setPlant_j3_3, if_pos hz]
    exact h_b
  · show e3 (f_X6_setPlant_j3_4 (ym_m_deadTime M) lp a1v a2v bv dtv) (yl_pdt T.1) (yl_pdt T.2.1) (yl_pdt T.2.2)
    simp only [f_X6_setPlant_j3_4, if_pos hz]
    exact h_deadTime
set_option maxHeartbeats 1000000 in
theorem rel_setLoad_0 (hR : Rel T bs M) (ldv : Int32) (uo : Nat → Int64) : rm_thrown (um_setLoad M 0 ldv) = lr_setLoad T.1 ldv ∧ (lr_setLoad T.1 ldv = 0 → lo_setLoad T.1 uo ldv (0 : Int32).toNatClampNeg = (rm_setLoad M 0 ldv).toInt64) ∧ Rel ((lu_setLoad T.1 ldv), T.2.1, T.2.2) bs (um_setLoad M 0 ldv) := by
  obtain ⟨h_bs, h_a1, h_a2, h_b, h_deadTime, h_load, h_measure, h_before, h_low, h_high, h_setpoint, h_integral, h_guard, h_share, h_mode, h_hand, h_follows, h_hasMaster, h_isStarved, h_held, h_sum, h_lastError, h_lastRate, h_experiment, h_center, h_height, h_band, h_isUp, h_gone, h_risings, h_second, h_greatest, h_least, h_period, h_swing, h_gain, h_past, h_go, h_sched, h_i_lim, h_i_gb, h_i_md, h_i_dt, h_i_me, h_i_st, h_i_up, h_i_gl, h_i_sw, h_i_rl, h_i_m0⟩ := Rel_iff.mp hR
  have hcd : (f_X6_setLoad_j1_1 0 ldv) = wr12 (f_X5_setLoad_x ldv) := cd_setLoad il_0
  by_cases hc : (f_X5_setLoad_x ldv) = 0
  · have hz : ¬ f_X6_can_j1_1 (f_X6_setLoad_j1_1 0 ldv) = 0 := can_ok (by rw [hcd]; exact w12_0 hc)
    refine ⟨?_, fun _ => ?_, h_bs, h_a1, h_a2, h_b, h_deadTime, ?_, h_measure, h_before, h_low, h_high, h_setpoint, h_integral, h_guard, h_share, h_mode, h_hand, h_follows, h_hasMaster, h_isStarved, h_held, h_sum, h_lastError, h_lastRate, h_experiment, h_center, h_height, h_band, h_isUp, h_gone, h_risings, h_second, h_greatest, h_least, h_period, h_swing, h_gain, h_past, h_go, h_sched, h_i_lim, h_i_gb, h_i_md, h_i_dt, h_i_me, h_i_st, h_i_up, h_i_gl, h_i_sw, h_i_rl, h_i_m0⟩
    · show (f_X6_setLoad_j1_1 0 ldv) = f_L_setLoad_r ldv
      rw [hcd]; unfold f_L_setLoad_r; rw [if_pos hc]; exact w12_0 hc
    · show (f_L_setLoad_uo (yl_pld T.1) uo ldv) (0 : Int32).toNatClampNeg = (f_X6_setLoad_r (ym_m_load M) 0 ldv).toInt64
      simp only [f_L_setLoad_uo, f_X6_setLoad_r, if_pos hc, if_neg hz]
      rw [ul_eq]
      exact congrArg Int32.toInt64 (h_load.1).symm
    · show e3 (f_X6_setLoad_m_load (ym_m_load M) 0 ldv) (f_L_setLoad_pld (yl_pld T.1) ldv) (yl_pld T.2.1) (yl_pld T.2.2)
      simp only [f_L_setLoad_pld, f_X6_setLoad_m_load, if_pos hc, if_neg hz]
      exact ⟨(u_eq _ _ _), ((u_ne _ _ (by decide)).trans h_load.2.1), ((u_ne _ _ (by decide)).trans h_load.2.2)⟩
  · have hz : f_X6_can_j1_1 (f_X6_setLoad_j1_1 0 ldv) = 0 := can_no (by rw [hcd]; exact w12_n hc)
    refine ⟨?_, fun h => absurd h ?_, h_bs, h_a1, h_a2, h_b, h_deadTime, ?_, h_measure, h_before, h_low, h_high, h_setpoint, h_integral, h_guard, h_share, h_mode, h_hand, h_follows, h_hasMaster, h_isStarved, h_held, h_sum, h_lastError, h_lastRate, h_experiment, h_center, h_height, h_band, h_isUp, h_gone, h_risings, h_second, h_greatest, h_least, h_period, h_swing, h_gain, h_past, h_go, h_sched, h_i_lim, h_i_gb, h_i_md, h_i_dt, h_i_me, h_i_st, h_i_up, h_i_gl, h_i_sw, h_i_rl, h_i_m0⟩
    · show (f_X6_setLoad_j1_1 0 ldv) = f_L_setLoad_r ldv
      rw [hcd]; unfold f_L_setLoad_r; rw [if_neg hc]
    · show ¬ f_L_setLoad_r ldv = 0
      unfold f_L_setLoad_r; rw [if_neg hc]; exact w12_n hc
    · show e3 (f_X6_setLoad_m_load (ym_m_load M) 0 ldv) (f_L_setLoad_pld (yl_pld T.1) ldv) (yl_pld T.2.1) (yl_pld T.2.2)
      simp only [f_L_setLoad_pld, f_X6_setLoad_m_load, if_neg hc, if_pos hz]
      exact h_load
set_option maxHeartbeats 1000000 in
theorem rel_setLoad_1 (hR : Rel T bs M) (ldv : Int32) (uo : Nat → Int64) : rm_thrown (um_setLoad M 1 ldv) = lr_setLoad T.2.1 ldv ∧ (lr_setLoad T.2.1 ldv = 0 → lo_setLoad T.2.1 uo ldv (0 : Int32).toNatClampNeg = (rm_setLoad M 1 ldv).toInt64) ∧ Rel (T.1, (lu_setLoad T.2.1 ldv), T.2.2) bs (um_setLoad M 1 ldv) := by
  obtain ⟨h_bs, h_a1, h_a2, h_b, h_deadTime, h_load, h_measure, h_before, h_low, h_high, h_setpoint, h_integral, h_guard, h_share, h_mode, h_hand, h_follows, h_hasMaster, h_isStarved, h_held, h_sum, h_lastError, h_lastRate, h_experiment, h_center, h_height, h_band, h_isUp, h_gone, h_risings, h_second, h_greatest, h_least, h_period, h_swing, h_gain, h_past, h_go, h_sched, h_i_lim, h_i_gb, h_i_md, h_i_dt, h_i_me, h_i_st, h_i_up, h_i_gl, h_i_sw, h_i_rl, h_i_m0⟩ := Rel_iff.mp hR
  have hcd : (f_X6_setLoad_j1_1 1 ldv) = wr12 (f_X5_setLoad_x ldv) := cd_setLoad il_1
  by_cases hc : (f_X5_setLoad_x ldv) = 0
  · have hz : ¬ f_X6_can_j1_1 (f_X6_setLoad_j1_1 1 ldv) = 0 := can_ok (by rw [hcd]; exact w12_0 hc)
    refine ⟨?_, fun _ => ?_, h_bs, h_a1, h_a2, h_b, h_deadTime, ?_, h_measure, h_before, h_low, h_high, h_setpoint, h_integral, h_guard, h_share, h_mode, h_hand, h_follows, h_hasMaster, h_isStarved, h_held, h_sum, h_lastError, h_lastRate, h_experiment, h_center, h_height, h_band, h_isUp, h_gone, h_risings, h_second, h_greatest, h_least, h_period, h_swing, h_gain, h_past, h_go, h_sched, h_i_lim, h_i_gb, h_i_md, h_i_dt, h_i_me, h_i_st, h_i_up, h_i_gl, h_i_sw, h_i_rl, h_i_m0⟩
    · show (f_X6_setLoad_j1_1 1 ldv) = f_L_setLoad_r ldv
      rw [hcd]; unfold f_L_setLoad_r; rw [if_pos hc]; exact w12_0 hc
    · show (f_L_setLoad_uo (yl_pld T.2.1) uo ldv) (0 : Int32).toNatClampNeg = (f_X6_setLoad_r (ym_m_load M) 1 ldv).toInt64
      simp only [f_L_setLoad_uo, f_X6_setLoad_r, if_pos hc, if_neg hz]
      rw [ul_eq]
      exact congrArg Int32.toInt64 (h_load.2.1).symm
    · show e3 (f_X6_setLoad_m_load (ym_m_load M) 1 ldv) (yl_pld T.1) (f_L_setLoad_pld (yl_pld T.2.1) ldv) (yl_pld T.2.2)
      simp only [f_L_setLoad_pld, f_X6_setLoad_m_load, if_pos hc, if_neg hz]
      exact ⟨((u_ne _ _ (by decide)).trans h_load.1), (u_eq _ _ _), ((u_ne _ _ (by decide)).trans h_load.2.2)⟩
  · have hz : f_X6_can_j1_1 (f_X6_setLoad_j1_1 1 ldv) = 0 := can_no (by rw [hcd]; exact w12_n hc)
    refine ⟨?_, fun h => absurd h ?_, h_bs, h_a1, h_a2, h_b, h_deadTime, ?_, h_measure, h_before, h_low, h_high, h_setpoint, h_integral, h_guard, h_share, h_mode, h_hand, h_follows, h_hasMaster, h_isStarved, h_held, h_sum, h_lastError, h_lastRate, h_experiment, h_center, h_height, h_band, h_isUp, h_gone, h_risings, h_second, h_greatest, h_least, h_period, h_swing, h_gain, h_past, h_go, h_sched, h_i_lim, h_i_gb, h_i_md, h_i_dt, h_i_me, h_i_st, h_i_up, h_i_gl, h_i_sw, h_i_rl, h_i_m0⟩
    · show (f_X6_setLoad_j1_1 1 ldv) = f_L_setLoad_r ldv
      rw [hcd]; unfold f_L_setLoad_r; rw [if_neg hc]
    · show ¬ f_L_setLoad_r ldv = 0
      unfold f_L_setLoad_r; rw [if_neg hc]; exact w12_n hc
    · show e3 (f_X6_setLoad_m_load (ym_m_load M) 1 ldv) (yl_pld T.1) (f_L_setLoad_pld (yl_pld T.2.1) ldv) (yl_pld T.2.2)
      simp only [f_L_setLoad_pld, f_X6_setLoad_m_load, if_neg hc, if_pos hz]
      exact h_load
set_option maxHeartbeats 1000000 in
theorem rel_setLoad_2 (hR : Rel T bs M) (ldv : Int32) (uo : Nat → Int64) : rm_thrown (um_setLoad M 2 ldv) = lr_setLoad T.2.2 ldv ∧ (lr_setLoad T.2.2 ldv = 0 → lo_setLoad T.2.2 uo ldv (0 : Int32).toNatClampNeg = (rm_setLoad M 2 ldv).toInt64) ∧ Rel (T.1, T.2.1, (lu_setLoad T.2.2 ldv)) bs (um_setLoad M 2 ldv) := by
  obtain ⟨h_bs, h_a1, h_a2, h_b, h_deadTime, h_load, h_measure, h_before, h_low, h_high, h_setpoint, h_integral, h_guard, h_share, h_mode, h_hand, h_follows, h_hasMaster, h_isStarved, h_held, h_sum, h_lastError, h_lastRate, h_experiment, h_center, h_height, h_band, h_isUp, h_gone, h_risings, h_second, h_greatest, h_least, h_period, h_swing, h_gain, h_past, h_go, h_sched, h_i_lim, h_i_gb, h_i_md, h_i_dt, h_i_me, h_i_st, h_i_up, h_i_gl, h_i_sw, h_i_rl, h_i_m0⟩ := Rel_iff.mp hR
  have hcd : (f_X6_setLoad_j1_1 2 ldv) = wr12 (f_X5_setLoad_x ldv) := cd_setLoad il_2
  by_cases hc : (f_X5_setLoad_x ldv) = 0
  · have hz : ¬ f_X6_can_j1_1 (f_X6_setLoad_j1_1 2 ldv) = 0 := can_ok (by rw [hcd]; exact w12_0 hc)
    refine ⟨?_, fun _ => ?_, h_bs, h_a1, h_a2, h_b, h_deadTime, ?_, h_measure, h_before, h_low, h_high, h_setpoint, h_integral, h_guard, h_share, h_mode, h_hand, h_follows, h_hasMaster, h_isStarved, h_held, h_sum, h_lastError, h_lastRate, h_experiment, h_center, h_height, h_band, h_isUp, h_gone, h_risings, h_second, h_greatest, h_least, h_period, h_swing, h_gain, h_past, h_go, h_sched, h_i_lim, h_i_gb, h_i_md, h_i_dt, h_i_me, h_i_st, h_i_up, h_i_gl, h_i_sw, h_i_rl, h_i_m0⟩
    · show (f_X6_setLoad_j1_1 2 ldv) = f_L_setLoad_r ldv
      rw [hcd]; unfold f_L_setLoad_r; rw [if_pos hc]; exact w12_0 hc
    · show (f_L_setLoad_uo (yl_pld T.2.2) uo ldv) (0 : Int32).toNatClampNeg = (f_X6_setLoad_r (ym_m_load M) 2 ldv).toInt64
      simp only [f_L_setLoad_uo, f_X6_setLoad_r, if_pos hc, if_neg hz]
      rw [ul_eq]
      exact congrArg Int32.toInt64 (h_load.2.2).symm
    · show e3 (f_X6_setLoad_m_load (ym_m_load M) 2 ldv) (yl_pld T.1) (yl_pld T.2.1) (f_L_setLoad_pld (yl_pld T.2.2) ldv)
      simp only [f_L_setLoad_pld, f_X6_setLoad_m_load, if_pos hc, if_neg hz]
      exact ⟨((u_ne _ _ (by decide)).trans h_load.1), ((u_ne _ _ (by decide)).trans h_load.2.1), (u_eq _ _ _)⟩
  · have hz : f_X6_can_j1_1 (f_X6_setLoad_j1_1 2 ldv) = 0 := can_no (by rw [hcd]; exact w12_n hc)
    refine ⟨?_, fun h => absurd h ?_, h_bs, h_a1, h_a2, h_b, h_deadTime, ?_, h_measure, h_before, h_low, h_high, h_setpoint, h_integral, h_guard, h_share, h_mode, h_hand, h_follows, h_hasMaster, h_isStarved, h_held, h_sum, h_lastError, h_lastRate, h_experiment, h_center, h_height, h_band, h_isUp, h_gone, h_risings, h_second, h_greatest, h_least, h_period, h_swing, h_gain, h_past, h_go, h_sched, h_i_lim, h_i_gb, h_i_md, h_i_dt, h_i_me, h_i_st, h_i_up, h_i_gl, h_i_sw, h_i_rl, h_i_m0⟩
    · show (f_X6_setLoad_j1_1 2 ldv) = f_L_setLoad_r ldv
      rw [hcd]; unfold f_L_setLoad_r; rw [if_neg hc]
    · show ¬ f_L_setLoad_r ldv = 0
      unfold f_L_setLoad_r; rw [if_neg hc]; exact w12_n hc
    · show e3 (f_X6_setLoad_m_load (ym_m_load M) 2 ldv) (yl_pld T.1) (yl_pld T.2.1) (f_L_setLoad_pld (yl_pld T.2.2) ldv)
      simp only [f_L_setLoad_pld, f_X6_setLoad_m_load, if_neg hc, if_pos hz]
      exact h_load
theorem rel_setLoad (hR : Rel T bs M) (lp : Int32) (ldv : Int32) (uo : Nat → Int64) : rm_thrown (um_setLoad M lp ldv) = ofL T lp (fun s => lr_setLoad s ldv) 1 ∧ (ofL T lp (fun s => lr_setLoad s ldv) 1 = 0 → (ofL T lp (fun s => lo_setLoad s uo ldv) uo) (0 : Int32).toNatClampNeg = (rm_setLoad M lp ldv).toInt64) ∧ Rel (onL T lp (fun s => lu_setLoad s ldv)) bs (um_setLoad M lp ldv) := by
  by_cases h0 : lp = 0
  · subst h0
    rw [ofL_0, ofL_0, onL_0]
    exact rel_setLoad_0 hR ldv uo
  by_cases h1 : lp = 1
  · subst h1
    rw [ofL_1, ofL_1, onL_1]
    exact rel_setLoad_1 hR ldv uo
  by_cases h2 : lp = 2
  · subst h2
    rw [ofL_2, ofL_2, onL_2]
    exact rel_setLoad_2 hR ldv uo
  rw [ofL_o T _ _ h0 h1 h2, ofL_o T _ _ h0 h1 h2, onL_o T _ h0 h1 h2]
  have hcd : (f_X6_setLoad_j1_1 lp ldv) = 1 := by simp only [f_X6_setLoad_j1_1, il_o h0 h1 h2]; rfl
  have hz : f_X6_can_j1_1 (f_X6_setLoad_j1_1 lp ldv) = 0 := can_no (by rw [hcd]; decide)
  obtain ⟨h_bs, h_a1, h_a2, h_b, h_deadTime, h_load, h_measure, h_before, h_low, h_high, h_setpoint, h_integral, h_guard, h_share, h_mode, h_hand, h_follows, h_hasMaster, h_isStarved, h_held, h_sum, h_lastError, h_lastRate, h_experiment, h_center, h_height, h_band, h_isUp, h_gone, h_risings, h_second, h_greatest, h_least, h_period, h_swing, h_gain, h_past, h_go, h_sched, h_i_lim, h_i_gb, h_i_md, h_i_dt, h_i_me, h_i_st, h_i_up, h_i_gl, h_i_sw, h_i_rl, h_i_m0⟩ := Rel_iff.mp hR
  refine ⟨hcd, fun h => absurd h (by decide), h_bs, h_a1, h_a2, h_b, h_deadTime, ?_, h_measure, h_before, h_low, h_high, h_setpoint, h_integral, h_guard, h_share, h_mode, h_hand, h_follows, h_hasMaster, h_isStarved, h_held, h_sum, h_lastError, h_lastRate, h_experiment, h_center, h_height, h_band, h_isUp, h_gone, h_risings, h_second, h_greatest, h_least, h_period, h_swing, h_gain, h_past, h_go, h_sched, h_i_lim, h_i_gb, h_i_md, h_i_dt, h_i_me, h_i_st, h_i_up, h_i_gl, h_i_sw, h_i_rl, h_i_m0⟩
  · show e3 (f_X6_setLoad_m_load (ym_m_load M) lp ldv) (yl_pld T.1) (yl_pld T.2.1) (yl_pld T.2.2)
    simp only [f_X6_setLoad_m_load, if_pos hz]
    exact h_load
set_option maxHeartbeats 1000000 in
theorem rel_setGains_0 (hR : Rel T bs M) (np : Int32) (ni : Int32) (nd : Int32) (uo : Nat → Int64) : rm_thrown (um_setGains M 0 np ni nd) = lr_setGains T.1 np ni nd ∧ (lr_setGains T.1 np ni nd = 0 → lo_setGains T.1 uo np ni nd (0 : Int32).toNatClampNeg = (rm_setGains M 0 np ni nd).toInt64) ∧ Rel ((lu_setGains T.1 np ni nd), T.2.1, T.2.2) bs (um_setGains M 0 np ni nd) := by
  obtain ⟨h_bs, h_a1, h_a2, h_b, h_deadTime, h_load, h_measure, h_before, h_low, h_high, h_setpoint, h_integral, h_guard, h_share, h_mode, h_hand, h_follows, h_hasMaster, h_isStarved, h_held, h_sum, h_lastError, h_lastRate, h_experiment, h_center, h_height, h_band, h_isUp, h_gone, h_risings, h_second, h_greatest, h_least, h_period, h_swing, h_gain, h_past, h_go, h_sched, h_i_lim, h_i_gb, h_i_md, h_i_dt, h_i_me, h_i_st, h_i_up, h_i_gl, h_i_sw, h_i_rl, h_i_m0⟩ := Rel_iff.mp hR
  have hcd : (f_X6_setGains_j1_1 (ym_m_mode M) 0 np ni nd) = wr123 (f_X5_setGains_x (yl_lmo T.1) np ni nd) := cd_setGains il_0 (h_mode.1)
  by_cases hc : (f_X5_setGains_x (yl_lmo T.1) np ni nd) = 0
  · have hz : ¬ f_X6_can_j1_1 (f_X6_setGains_j1_1 (ym_m_mode M) 0 np ni nd) = 0 := can_ok (by rw [hcd]; exact w123_0 hc)
    refine ⟨?_, fun _ => ?_, h_bs, h_a1, h_a2, h_b, h_deadTime, h_load, h_measure, h_before, h_low, h_high, h_setpoint, ?_, h_guard, h_share, h_mode, h_hand, h_follows, h_hasMaster, h_isStarved, h_held, h_sum, h_lastError, h_lastRate, h_experiment, h_center, h_height, h_band, h_isUp, h_gone, h_risings, h_second, h_greatest, h_least, h_period, h_swing, ?_, h_past, h_go, ?_, h_i_lim, ?_, h_i_md, h_i_dt, h_i_me, h_i_st, h_i_up, h_i_gl, h_i_sw, h_i_rl, h_i_m0⟩
    · show (f_X6_setGains_j1_1 (ym_m_mode M) 0 np ni nd) = f_L_setGains_r (yl_lmo T.1) np ni nd
      rw [hcd]; unfold f_L_setGains_r; rw [if_pos hc]; exact w123_0 hc
    · show (f_L_setGains_uo (yl_lmo T.1) (yl_sn T.1) uo np ni nd) (0 : Int32).toNatClampNeg = (f_X6_setGains_r (ym_m_mode M) (ym_m_points M) 0 np ni nd).toInt64
      simp only [f_L_setGains_uo, f_X6_setGains_r, if_pos hc, if_neg hz]
      rw [ul_eq]
      exact congrArg Int32.toInt64 (rs_pt h_sched.1).symm
    · show e3 (f_X6_setGains_m_integral (ym_m_measure M) (ym_m_before M) (ym_m_gain M) (ym_m_setpoint M) (ym_m_integral M) (ym_m_mode M) 0 np ni nd) (f_L_setGains_kig (yl_lmo T.1) (yl_kp T.1) (yl_kd T.1) (yl_ksp T.1) (yl_kig T.1) (yl_pme T.1) (yl_pmb T.1) np ni nd) (yl_kig T.2.1) (yl_kig T.2.2)
      simp only [f_L_setGains_kig, f_X6_setGains_m_integral, if_pos hc, if_neg hz]
      rw [chg_eq (h_integral.1) (h_gain.1) (h_gain.2.2.1) (h_setpoint.1) (h_measure.1) (h_before.1) (h_i_gb.1) (gs_ok hc)]
      exact ⟨(ul_eq _ _ _), ((ul_ne _ _ (by decide)).trans h_integral.2.1), ((ul_ne _ _ (by decide)).trans h_integral.2.2)⟩
    · show (f_X6_setGains_m_gain (ym_m_gain M) (ym_m_mode M) 0 np ni nd) 0 = (f_L_setGains_kp (yl_lmo T.1) (yl_kp T.1) np ni nd).toInt64 ∧ (f_X6_setGains_m_gain (ym_m_gain M) (ym_m_mode M) 0 np ni nd) 1 = (f_L_setGains_ki (yl_lmo T.1) (yl_ki T.1) np ni nd).toInt64 ∧ (f_X6_setGains_m_gain (ym_m_gain M) (ym_m_mode M) 0 np ni nd) 2 = (f_L_setGains_kd (yl_lmo T.1) (yl_kd T.1) np ni nd).toInt64 ∧ (f_X6_setGains_m_gain (ym_m_gain M) (ym_m_mode M) 0 np ni nd) 3 = (yl_kp T.2.1).toInt64 ∧ (f_X6_setGains_m_gain (ym_m_gain M) (ym_m_mode M) 0 np ni nd) 4 = (yl_ki T.2.1).toInt64 ∧ (f_X6_setGains_m_gain (ym_m_gain M) (ym_m_mode M) 0 np ni nd) 5 = (yl_kd T.2.1).toInt64 ∧ (f_X6_setGains_m_gain (ym_m_gain M) (ym_m_mode M) 0 np ni nd) 6 = (yl_kp T.2.2).toInt64 ∧ (f_X6_setGains_m_gain (ym_m_gain M) (ym_m_mode M) 0 np ni nd) 7 = (yl_ki T.2.2).toInt64 ∧ (f_X6_setGains_m_gain (ym_m_gain M) (ym_m_mode M) 0 np ni nd) 8 = (yl_kd T.2.2).toInt64
      simp only [f_L_setGains_kp, f_L_setGains_ki, f_L_setGains_kd, f_X6_setGains_m_gain, if_pos hc, if_neg hz]
      unfold f_X6_changes_m_gain
      exact ⟨by rw [ul_ne _ _ (by decide), ul_ne _ _ (by decide)]; exact ul_eq _ _ _, by rw [ul_ne _ _ (by decide)]; exact ul_eq _ _ _, ul_eq _ _ _, by rw [ul_ne _ _ (by decide), ul_ne _ _ (by decide), ul_ne _ _ (by decide)]; exact h_gain.2.2.2.1, by rw [ul_ne _ _ (by decide), ul_ne _ _ (by decide), ul_ne _ _ (by decide)]; exact h_gain.2.2.2.2.1, by rw [ul_ne _ _ (by decide), ul_ne _ _ (by decide), ul_ne _ _ (by decide)]; exact h_gain.2.2.2.2.2.1, by rw [ul_ne _ _ (by decide), ul_ne _ _ (by decide), ul_ne _ _ (by decide)]; exact h_gain.2.2.2.2.2.2.1, by rw [ul_ne _ _ (by decide), ul_ne _ _ (by decide), ul_ne _ _ (by decide)]; exact h_gain.2.2.2.2.2.2.2.1, by rw [ul_ne _ _ (by decide), ul_ne _ _ (by decide), ul_ne _ _ (by decide)]; exact h_gain.2.2.2.2.2.2.2.2⟩
    · show (Rs 0 ((f_X6_setGains_m_points (ym_m_mode M) (ym_m_points M) 0 np ni nd) 0) (ym_m_at M) (ym_m_then M) (f_L_setGains_sn (yl_lmo T.1) (yl_sn T.1) np ni nd) (yl_gm T.1) (yl_gp T.1) (yl_gi T.1) (yl_gd T.1)) ∧ (Rs 1 ((f_X6_setGains_m_points (ym_m_mode M) (ym_m_points M) 0 np ni nd) 1) (ym_m_at M) (ym_m_then M) (yl_sn T.2.1) (yl_gm T.2.1) (yl_gp T.2.1) (yl_gi T.2.1) (yl_gd T.2.1)) ∧ (Rs 2 ((f_X6_setGains_m_points (ym_m_mode M) (ym_m_points M) 0 np ni nd) 2) (ym_m_at M) (ym_m_then M) (yl_sn T.2.2) (yl_gm T.2.2) (yl_gp T.2.2) (yl_gi T.2.2) (yl_gd T.2.2))
      simp only [f_L_setGains_sn, f_X6_setGains_m_points, if_pos hc, if_neg hz]
      exact ⟨rs_zero rfl, rs_ne (by decide) h_sched.2.1, rs_ne (by decide) h_sched.2.2⟩
    · show (Gb (f_L_setGains_kp (yl_lmo T.1) (yl_kp T.1) np ni nd) (f_L_setGains_ki (yl_lmo T.1) (yl_ki T.1) np ni nd) (f_L_setGains_kd (yl_lmo T.1) (yl_kd T.1) np ni nd)) ∧ (Gb (yl_kp T.2.1) (yl_ki T.2.1) (yl_kd T.2.1)) ∧ (Gb (yl_kp T.2.2) (yl_ki T.2.2) (yl_kd T.2.2))
      simp only [f_L_setGains_kp, f_L_setGains_ki, f_L_setGains_kd, if_pos hc]
      exact ⟨gs_ok hc, h_i_gb.2.1, h_i_gb.2.2⟩
  · have hz : f_X6_can_j1_1 (f_X6_setGains_j1_1 (ym_m_mode M) 0 np ni nd) = 0 := can_no (by rw [hcd]; exact w123_n hc)
    refine ⟨?_, fun h => absurd h ?_, h_bs, h_a1, h_a2, h_b, h_deadTime, h_load, h_measure, h_before, h_low, h_high, h_setpoint, ?_, h_guard, h_share, h_mode, h_hand, h_follows, h_hasMaster, h_isStarved, h_held, h_sum, h_lastError, h_lastRate, h_experiment, h_center, h_height, h_band, h_isUp, h_gone, h_risings, h_second, h_greatest, h_least, h_period, h_swing, ?_, h_past, h_go, ?_, h_i_lim, ?_, h_i_md, h_i_dt, h_i_me, h_i_st, h_i_up, h_i_gl, h_i_sw, h_i_rl, h_i_m0⟩
    · show (f_X6_setGains_j1_1 (ym_m_mode M) 0 np ni nd) = f_L_setGains_r (yl_lmo T.1) np ni nd
      rw [hcd]; unfold f_L_setGains_r; rw [if_neg hc]
    · show ¬ f_L_setGains_r (yl_lmo T.1) np ni nd = 0
      unfold f_L_setGains_r; rw [if_neg hc]; exact w123_n hc
    · show e3 (f_X6_setGains_m_integral (ym_m_measure M) (ym_m_before M) (ym_m_gain M) (ym_m_setpoint M) (ym_m_integral M) (ym_m_mode M) 0 np ni nd) (f_L_setGains_kig (yl_lmo T.1) (yl_kp T.1) (yl_kd T.1) (yl_ksp T.1) (yl_kig T.1) (yl_pme T.1) (yl_pmb T.1) np ni nd) (yl_kig T.2.1) (yl_kig T.2.2)
      simp only [f_L_setGains_kig, f_X6_setGains_m_integral, if_neg hc, if_pos hz]
      exact h_integral
    · show (f_X6_setGains_m_gain (ym_m_gain M) (ym_m_mode M) 0 np ni nd) 0 = (f_L_setGains_kp (yl_lmo T.1) (yl_kp T.1) np ni nd).toInt64 ∧ (f_X6_setGains_m_gain (ym_m_gain M) (ym_m_mode M) 0 np ni nd) 1 = (f_L_setGains_ki (yl_lmo T.1) (yl_ki T.1) np ni nd).toInt64 ∧ (f_X6_setGains_m_gain (ym_m_gain M) (ym_m_mode M) 0 np ni nd) 2 = (f_L_setGains_kd (yl_lmo T.1) (yl_kd T.1) np ni nd).toInt64 ∧ (f_X6_setGains_m_gain (ym_m_gain M) (ym_m_mode M) 0 np ni nd) 3 = (yl_kp T.2.1).toInt64 ∧ (f_X6_setGains_m_gain (ym_m_gain M) (ym_m_mode M) 0 np ni nd) 4 = (yl_ki T.2.1).toInt64 ∧ (f_X6_setGains_m_gain (ym_m_gain M) (ym_m_mode M) 0 np ni nd) 5 = (yl_kd T.2.1).toInt64 ∧ (f_X6_setGains_m_gain (ym_m_gain M) (ym_m_mode M) 0 np ni nd) 6 = (yl_kp T.2.2).toInt64 ∧ (f_X6_setGains_m_gain (ym_m_gain M) (ym_m_mode M) 0 np ni nd) 7 = (yl_ki T.2.2).toInt64 ∧ (f_X6_setGains_m_gain (ym_m_gain M) (ym_m_mode M) 0 np ni nd) 8 = (yl_kd T.2.2).toInt64
      simp only [f_L_setGains_kp, f_L_setGains_ki, f_L_setGains_kd, f_X6_setGains_m_gain, if_neg hc, if_pos hz]
      exact h_gain
    · show (Rs 0 ((f_X6_setGains_m_points (ym_m_mode M) (ym_m_points M) 0 np ni nd) 0) (ym_m_at M) (ym_m_then M) (f_L_setGains_sn (yl_lmo T.1) (yl_sn T.1) np ni nd) (yl_gm T.1) (yl_gp T.1) (yl_gi T.1) (yl_gd T.1)) ∧ (Rs 1 ((f_X6_setGains_m_points (ym_m_mode M) (ym_m_points M) 0 np ni nd) 1) (ym_m_at M) (ym_m_then M) (yl_sn T.2.1) (yl_gm T.2.1) (yl_gp T.2.1) (yl_gi T.2.1) (yl_gd T.2.1)) ∧ (Rs 2 ((f_X6_setGains_m_points (ym_m_mode M) (ym_m_points M) 0 np ni nd) 2) (ym_m_at M) (ym_m_then M) (yl_sn T.2.2) (yl_gm T.2.2) (yl_gp T.2.2) (yl_gi T.2.2) (yl_gd T.2.2))
      simp only [f_L_setGains_sn, f_X6_setGains_m_points, if_neg hc, if_pos hz]
      exact h_sched
    · show (Gb (f_L_setGains_kp (yl_lmo T.1) (yl_kp T.1) np ni nd) (f_L_setGains_ki (yl_lmo T.1) (yl_ki T.1) np ni nd) (f_L_setGains_kd (yl_lmo T.1) (yl_kd T.1) np ni nd)) ∧ (Gb (yl_kp T.2.1) (yl_ki T.2.1) (yl_kd T.2.1)) ∧ (Gb (yl_kp T.2.2) (yl_ki T.2.2) (yl_kd T.2.2))
      simp only [f_L_setGains_kp, f_L_setGains_ki, f_L_setGains_kd, if_neg hc]
      exact h_i_gb
set_option maxHeartbeats 1000000 in
theorem rel_setGains_1 (hR : Rel T bs M) (np : Int32) (ni : Int32) (nd : Int32) (uo : Nat → Int64) : rm_thrown (um_setGains M 1 np ni nd) = lr_setGains T.2.1 np ni nd ∧ (lr_setGains T.2.1 np ni nd = 0 → lo_setGains T.2.1 uo np ni nd (0 : Int32).toNatClampNeg = (rm_setGains M 1 np ni nd).toInt64) ∧ Rel (T.1, (lu_setGains T.2.1 np ni nd), T.2.2) bs (um_setGains M 1 np ni nd) := by
  obtain ⟨h_bs, h_a1, h_a2, h_b, h_deadTime, h_load, h_measure, h_before, h_low, h_high, h_setpoint, h_integral, h_guard, h_share, h_mode, h_hand, h_follows, h_hasMaster, h_isStarved, h_held, h_sum, h_lastError, h_lastRate, h_experiment, h_center, h_height, h_band, h_isUp, h_gone, h_risings, h_second, h_greatest, h_least, h_period, h_swing, h_gain, h_past, h_go, h_sched, h_i_lim, h_i_gb, h_i_md, h_i_dt, h_i_me, h_i_st, h_i_up, h_i_gl, h_i_sw, h_i_rl, h_i_m0⟩ := Rel_iff.mp hR
  have hcd : (f_X6_setGains_j1_1 (ym_m_mode M) 1 np ni nd) = wr123 (f_X5_setGains_x (yl_lmo T.2.1) np ni nd) := cd_setGains il_1 (h_mode.2.1)
  by_cases hc : (f_X5_setGains_x (yl_lmo T.2.1) np ni nd) = 0
  · have hz : ¬ f_X6_can_j1_1 (f_X6_setGains_j1_1 (ym_m_mode M) 1 np ni nd) = 0 := can_ok (by rw [hcd]; exact w123_0 hc)
    refine ⟨?_, fun _ => ?_, h_bs, h_a1, h_a2, h_b, h_deadTime, h_load, h_measure, h_before, h_low, h_high, h_setpoint, ?_, h_guard, h_share, h_mode, h_hand, h_follows, h_hasMaster, h_isStarved, h_held, h_sum, h_lastError, h_lastRate, h_experiment, h_center, h_height, h_band, h_isUp, h_gone, h_risings, h_second, h_greatest, h_least, h_period, h_swing, ?_, h_past, h_go, ?_, h_i_lim, ?_, h_i_md, h_i_dt, h_i_me, h_i_st, h_i_up, h_i_gl, h_i_sw, h_i_rl, h_i_m0⟩
    · show (f_X6_setGains_j1_1 (ym_m_mode M) 1 np ni nd) = f_L_setGains_r (yl_lmo T.2.1) np ni nd
      rw [hcd]; unfold f_L_setGains_r; rw [if_pos hc]; exact w123_0 hc
    · show (f_L_setGains_uo (yl_lmo T.2.1) (yl_sn T.2.1) uo np ni nd) (0 : Int32).toNatClampNeg = (f_X6_setGains_r (ym_m_mode M) (ym_m_points M) 1 np ni nd).toInt64
      simp only [f_L_setGains_uo, f_X6_setGains_r, if_pos hc, if_neg hz]
      rw [ul_eq]
      exact congrArg Int32.toInt64 (rs_pt h_sched.2.1).symm
    · show e3 (f_X6_setGains_m_integral (ym_m_measure M) (ym_m_before M) (ym_m_gain M) (ym_m_setpoint M) (ym_m_integral M) (ym_m_mode M) 1 np ni nd) (yl_kig T.1) (f_L_setGains_kig (yl_lmo T.2.1) (yl_kp T.2.1) (yl_kd T.2.1) (yl_ksp T.2.1) (yl_kig T.2.1) (yl_pme T.2.1) (yl_pmb T.2.1) np ni nd) (yl_kig T.2.2)
      simp only [f_L_setGains_kig, f_X6_setGains_m_integral, if_pos hc, if_neg hz]
      rw [chg_eq (h_integral.2.1) (h_gain.2.2.2.1) (h_gain.2.2.2.2.2.1) (h_setpoint.2.1) (h_measure.2.1) (h_before.2.1) (h_i_gb.2.1) (gs_ok hc)]
      exact ⟨((ul_ne _ _ (by decide)).trans h_integral.1), (ul_eq _ _ _), ((ul_ne _ _ (by decide)).trans h_integral.2.2)⟩
    · show (f_X6_setGains_m_gain (ym_m_gain M) (ym_m_mode M) 1 np ni nd) 0 = (yl_kp T.1).toInt64 ∧ (f_X6_setGains_m_gain (ym_m_gain M) (ym_m_mode M) 1 np ni nd) 1 = (yl_ki T.1).toInt64 ∧ (f_X6_setGains_m_gain (ym_m_gain M) (ym_m_mode M) 1 np ni nd) 2 = (yl_kd T.1).toInt64 ∧ (f_X6_setGains_m_gain (ym_m_gain M) (ym_m_mode M) 1 np ni nd) 3 = (f_L_setGains_kp (yl_lmo T.2.1) (yl_kp T.2.1) np ni nd).toInt64 ∧ (f_X6_setGains_m_gain (ym_m_gain M) (ym_m_mode M) 1 np ni nd) 4 = (f_L_setGains_ki (yl_lmo T.2.1) (yl_ki T.2.1) np ni nd).toInt64 ∧ (f_X6_setGains_m_gain (ym_m_gain M) (ym_m_mode M) 1 np ni nd) 5 = (f_L_setGains_kd (yl_lmo T.2.1) (yl_kd T.2.1) np ni nd).toInt64 ∧ (f_X6_setGains_m_gain (ym_m_gain M) (ym_m_mode M) 1 np ni nd) 6 = (yl_kp T.2.2).toInt64 ∧ (f_X6_setGains_m_gain (ym_m_gain M) (ym_m_mode M) 1 np ni nd) 7 = (yl_ki T.2.2).toInt64 ∧ (f_X6_setGains_m_gain (ym_m_gain M) (ym_m_mode M) 1 np ni nd) 8 = (yl_kd T.2.2).toInt64
      simp only [f_L_setGains_kp, f_L_setGains_ki, f_L_setGains_kd, f_X6_setGains_m_gain, if_pos hc, if_neg hz]
      unfold f_X6_changes_m_gain
      exact ⟨by rw [ul_ne _ _ (by decide), ul_ne _ _ (by decide), ul_ne _ _ (by decide)]; exact h_gain.1, by rw [ul_ne _ _ (by decide), ul_ne _ _ (by decide), ul_ne _ _ (by decide)]; exact h_gain.2.1, by rw [ul_ne _ _ (by decide), ul_ne _ _ (by decide), ul_ne _ _ (by decide)]; exact h_gain.2.2.1, by rw [ul_ne _ _ (by decide), ul_ne _ _ (by decide)]; exact ul_eq _ _ _, by rw [ul_ne _ _ (by decide)]; exact ul_eq _ _ _, ul_eq _ _ _, by rw [ul_ne _ _ (by decide), ul_ne _ _ (by decide), ul_ne _ _ (by decide)]; exact h_gain.2.2.2.2.2.2.1, by rw [ul_ne _ _ (by decide), ul_ne _ _ (by decide), ul_ne _ _ (by decide)]; exact h_gain.2.2.2.2.2.2.2.1, by rw [ul_ne _ _ (by decide), ul_ne _ _ (by decide), ul_ne _ _ (by decide)]; exact h_gain.2.2.2.2.2.2.2.2⟩
    · show (Rs 0 ((f_X6_setGains_m_points (ym_m_mode M) (ym_m_points M) 1 np ni nd) 0) (ym_m_at M) (ym_m_then M) (yl_sn T.1) (yl_gm T.1) (yl_gp T.1) (yl_gi T.1) (yl_gd T.1)) ∧ (Rs 1 ((f_X6_setGains_m_points (ym_m_mode M) (ym_m_points M) 1 np ni nd) 1) (ym_m_at M) (ym_m_then M) (f_L_setGains_sn (yl_lmo T.2.1) (yl_sn T.2.1) np ni nd) (yl_gm T.2.1) (yl_gp T.2.1) (yl_gi T.2.1) (yl_gd T.2.1)) ∧ (Rs 2 ((f_X6_setGains_m_points (ym_m_mode M) (ym_m_points M) 1 np ni nd) 2) (ym_m_at M) (ym_m_then M) (yl_sn T.2.2) (yl_gm T.2.2) (yl_gp T.2.2) (yl_gi T.2.2) (yl_gd T.2.2))
      simp only [f_L_setGains_sn, f_X6_setGains_m_points, if_pos hc, if_neg hz]
      exact ⟨rs_ne (by decide) h_sched.1, rs_zero rfl, rs_ne (by decide) h_sched.2.2⟩
    · show (Gb (yl_kp T.1) (yl_ki T.1) (yl_kd T.1)) ∧ (Gb (f_L_setGains_kp (yl_lmo T.2.1) (yl_kp T.2.1) np ni nd) (f_L_setGains_ki (yl_lmo T.2.1) (yl_ki T.2.1) np ni nd) (f_L_setGains_kd (yl_lmo T.2.1) (yl_kd T.2.1) np ni nd)) ∧ (Gb (yl_kp T.2.2) (yl_ki T.2.2) (yl_kd T.2.2))
      simp only [f_L_setGains_kp, f_L_setGains_ki, f_L_setGains_kd, if_pos hc]
      exact ⟨h_i_gb.1, gs_ok hc, h_i_gb.2.2⟩
  · have hz : f_X6_can_j1_1 (f_X6_setGains_j1_1 (ym_m_mode M) 1 np ni nd) = 0 := can_no (by rw [hcd]; exact w123_n hc)
    refine ⟨?_, fun h => absurd h ?_, h_bs, h_a1, h_a2, h_b, h_deadTime, h_load, h_measure, h_before, h_low, h_high, h_setpoint, ?_, h_guard, h_share, h_mode, h_hand, h_follows, h_hasMaster, h_isStarved, h_held, h_sum, h_lastError, h_lastRate, h_experiment, h_center, h_height, h_band, h_isUp, h_gone, h_risings, h_second, h_greatest, h_least, h_period, h_swing, ?_, h_past, h_go, ?_, h_i_lim, ?_, h_i_md, h_i_dt, h_i_me, h_i_st, h_i_up, h_i_gl, h_i_sw, h_i_rl, h_i_m0⟩
    · show (f_X6_setGains_j1_1 (ym_m_mode M) 1 np ni nd) = f_L_setGains_r (yl_lmo T.2.1) np ni nd
      rw [hcd]; unfold f_L_setGains_r; rw [if_neg hc]
    · show ¬ f_L_setGains_r (yl_lmo T.2.1) np ni nd = 0
      unfold f_L_setGains_r; rw [if_neg hc]; exact w123_n hc
    · show e3 (f_X6_setGains_m_integral (ym_m_measure M) (ym_m_before M) (ym_m_gain M) (ym_m_setpoint M) (ym_m_integral M) (ym_m_mode M) 1 np ni nd) (yl_kig T.1) (f_L_setGains_kig (yl_lmo T.2.1) (yl_kp T.2.1) (yl_kd T.2.1) (yl_ksp T.2.1) (yl_kig T.2.1) (yl_pme T.2.1) (yl_pmb T.2.1) np ni nd) (yl_kig T.2.2)
      simp only [f_L_setGains_kig, f_X6_setGains_m_integral, if_neg hc, if_pos hz]
      exact h_integral
    · show (f_X6_setGains_m_gain (ym_m_gain M) (ym_m_mode M) 1 np ni nd) 0 = (yl_kp T.1).toInt64 ∧ (f_X6_setGains_m_gain (ym_m_gain M) (ym_m_mode M) 1 np ni nd) 1 = (yl_ki T.1).toInt64 ∧ (f_X6_setGains_m_gain (ym_m_gain M) (ym_m_mode M) 1 np ni nd) 2 = (yl_kd T.1).toInt64 ∧ (f_X6_setGains_m_gain (ym_m_gain M) (ym_m_mode M) 1 np ni nd) 3 = (f_L_setGains_kp (yl_lmo T.2.1) (yl_kp T.2.1) np ni nd).toInt64 ∧ (f_X6_setGains_m_gain (ym_m_gain M) (ym_m_mode M) 1 np ni nd) 4 = (f_L_setGains_ki (yl_lmo T.2.1) (yl_ki T.2.1) np ni nd).toInt64 ∧ (f_X6_setGains_m_gain (ym_m_gain M) (ym_m_mode M) 1 np ni nd) 5 = (f_L_setGains_kd (yl_lmo T.2.1) (yl_kd T.2.1) np ni nd).toInt64 ∧ (f_X6_setGains_m_gain (ym_m_gain M) (ym_m_mode M) 1 np ni nd) 6 = (yl_kp T.2.2).toInt64 ∧ (f_X6_setGains_m_gain (ym_m_gain M) (ym_m_mode M) 1 np ni nd) 7 = (yl_ki T.2.2).toInt64 ∧ (f_X6_setGains_m_gain (ym_m_gain M) (ym_m_mode M) 1 np ni nd) 8 = (yl_kd T.2.2).toInt64
      simp only [f_L_setGains_kp, f_L_setGains_ki, f_L_setGains_kd, f_X6_setGains_m_gain, if_neg hc, if_pos hz]
      exact h_gain
    · show (Rs 0 ((f_X6_setGains_m_points (ym_m_mode M) (ym_m_points M) 1 np ni nd) 0) (ym_m_at M) (ym_m_then M) (yl_sn T.1) (yl_gm T.1) (yl_gp T.1) (yl_gi T.1) (yl_gd T.1)) ∧ (Rs 1 ((f_X6_setGains_m_points (ym_m_mode M) (ym_m_points M) 1 np ni nd) 1) (ym_m_at M) (ym_m_then M) (f_L_setGains_sn (yl_lmo T.2.1) (yl_sn T.2.1) np ni nd) (yl_gm T.2.1) (yl_gp T.2.1) (yl_gi T.2.1) (yl_gd T.2.1)) ∧ (Rs 2 ((f_X6_setGains_m_points (ym_m_mode M) (ym_m_points M) 1 np ni nd) 2) (ym_m_at M) (ym_m_then M) (yl_sn T.2.2) (yl_gm T.2.2) (yl_gp T.2.2) (yl_gi T.2.2) (yl_gd T.2.2))
      simp only [f_L_setGains_sn, f_X6_setGains_m_points, if_neg hc, if_pos hz]
      exact h_sched
    · show (Gb (yl_kp T.1) (yl_ki T.1) (yl_kd T.1)) ∧ (Gb (f_L_setGains_kp (yl_lmo T.2.1) (yl_kp T.2.1) np ni nd) (f_L_setGains_ki (yl_lmo T.2.1) (yl_ki T.2.1) np ni nd) (f_L_setGains_kd (yl_lmo T.2.1) (yl_kd T.2.1) np ni nd)) ∧ (Gb (yl_kp T.2.2) (yl_ki T.2.2) (yl_kd T.2.2))
      simp only [f_L_setGains_kp, f_L_setGains_ki, f_L_setGains_kd, if_neg hc]
      exact h_i_gb
set_option maxHeartbeats 1000000 in
theorem rel_setGains_2 (hR : Rel T bs M) (np : Int32) (ni : Int32) (nd : Int32) (uo : Nat → Int64) : rm_thrown (um_setGains M 2 np ni nd) = lr_setGains T.2.2 np ni nd ∧ (lr_setGains T.2.2 np ni nd = 0 → lo_setGains T.2.2 uo np ni nd (0 : Int32).toNatClampNeg = (rm_setGains M 2 np ni nd).toInt64) ∧ Rel (T.1, T.2.1, (lu_setGains T.2.2 np ni nd)) bs (um_setGains M 2 np ni nd) := by
  obtain ⟨h_bs, h_a1, h_a2, h_b, h_deadTime, h_load, h_measure, h_before, h_low, h_high, h_setpoint, h_integral, h_guard, h_share, h_mode, h_hand, h_follows, h_hasMaster, h_isStarved, h_held, h_sum, h_lastError, h_lastRate, h_experiment, h_center, h_height, h_band, h_isUp, h_gone, h_risings, h_second, h_greatest, h_least, h_period, h_swing, h_gain, h_past, h_go, h_sched, h_i_lim, h_i_gb, h_i_md, h_i_dt, h_i_me, h_i_st, h_i_up, h_i_gl, h_i_sw, h_i_rl, h_i_m0⟩ := Rel_iff.mp hR
  have hcd : (f_X6_setGains_j1_1 (ym_m_mode M) 2 np ni nd) = wr123 (f_X5_setGains_x (yl_lmo T.2.2) np ni nd) := cd_setGains il_2 (h_mode.2.2)
  by_cases hc : (f_X5_setGains_x (yl_lmo T.2.2) np ni nd) = 0
  · have hz : ¬ f_X6_can_j1_1 (f_X6_setGains_j1_1 (ym_m_mode M) 2 np ni nd) = 0 := can_ok (by rw [hcd]; exact w123_0 hc)
    refine ⟨?_, fun _ => ?_, h_bs, h_a1, h_a2, h_b, h_deadTime, h_load, h_measure, h_before, h_low, h_high, h_setpoint, ?_, h_guard, h_share, h_mode, h_hand, h_follows, h_hasMaster, h_isStarved, h_held, h_sum, h_lastError, h_lastRate, h_experiment, h_center, h_height, h_band, h_isUp, h_gone, h_risings, h_second, h_greatest, h_least, h_period, h_swing, ?_, h_past, h_go, ?_, h_i_lim, ?_, h_i_md, h_i_dt, h_i_me, h_i_st, h_i_up, h_i_gl, h_i_sw, h_i_rl, h_i_m0⟩
    · show (f_X6_setGains_j1_1 (ym_m_mode M) 2 np ni nd) = f_L_setGains_r (yl_lmo T.2.2) np ni nd
      rw [hcd]; unfold f_L_setGains_r; rw [if_pos hc]; exact w123_0 hc
    · show (f_L_setGains_uo (yl_lmo T.2.2) (yl_sn T.2.2) uo np ni nd) (0 : Int32).toNatClampNeg = (f_X6_setGains_r (ym_m_mode M) (ym_m_points M) 2 np ni nd).toInt64
      simp only [f_L_setGains_uo, f_X6_setGains_r, if_pos hc, if_neg hz]
      rw [ul_eq]
      exact congrArg Int32.toInt64 (rs_pt h_sched.2.2).symm
    · show e3 (f_X6_setGains_m_integral (ym_m_measure M) (ym_m_before M) (ym_m_gain M) (ym_m_setpoint M) (ym_m_integral M) (ym_m_mode M) 2 np ni nd) (yl_kig T.1) (yl_kig T.2.1) (f_L_setGains_kig (yl_lmo T.2.2) (yl_kp T.2.2) (yl_kd T.2.2) (yl_ksp T.2.2) (yl_kig T.2.2) (yl_pme T.2.2) (yl_pmb T.2.2) np ni nd)
      simp only [f_L_setGains_kig, f_X6_setGains_m_integral, if_pos hc, if_neg hz]
      rw [chg_eq (h_integral.2.2) (h_gain.2.2.2.2.2.2.1) (h_gain.2.2.2.2.2.2.2.2) (h_setpoint.2.2) (h_measure.2.2) (h_before.2.2) (h_i_gb.2.2) (gs_ok hc)]
      exact ⟨((ul_ne _ _ (by decide)).trans h_integral.1), ((ul_ne _ _ (by decide)).trans h_integral.2.1), (ul_eq _ _ _)⟩
    · show (f_X6_setGains_m_gain (ym_m_gain M) (ym_m_mode M) 2 np ni nd) 0 = (yl_kp T.1).toInt64 ∧ (f_X6_setGains_m_gain (ym_m_gain M) (ym_m_mode M) 2 np ni nd) 1 = (yl_ki T.1).toInt64 ∧ (f_X6_setGains_m_gain (ym_m_gain M) (ym_m_mode M) 2 np ni nd) 2 = (yl_kd T.1).toInt64 ∧ (f_X6_setGains_m_gain (ym_m_gain M) (ym_m_mode M) 2 np ni nd) 3 = (yl_kp T.2.1).toInt64 ∧ (f_X6_setGains_m_gain (ym_m_gain M) (ym_m_mode M) 2 np ni nd) 4 = (yl_ki T.2.1).toInt64 ∧ (f_X6_setGains_m_gain (ym_m_gain M) (ym_m_mode M) 2 np ni nd) 5 = (yl_kd T.2.1).toInt64 ∧ (f_X6_setGains_m_gain (ym_m_gain M) (ym_m_mode M) 2 np ni nd) 6 = (f_L_setGains_kp (yl_lmo T.2.2) (yl_kp T.2.2) np ni nd).toInt64 ∧ (f_X6_setGains_m_gain (ym_m_gain M) (ym_m_mode M) 2 np ni nd) 7 = (f_L_setGains_ki (yl_lmo T.2.2) (yl_ki T.2.2) np ni nd).toInt64 ∧ (f_X6_setGains_m_gain (ym_m_gain M) (ym_m_mode M) 2 np ni nd) 8 = (f_L_setGains_kd (yl_lmo T.2.2) (yl_kd T.2.2) np ni nd).toInt64
      simp only [f_L_setGains_kp, f_L_setGains_ki, f_L_setGains_kd, f_X6_setGains_m_gain, if_pos hc, if_neg hz]
      unfold f_X6_changes_m_gain
      exact ⟨by rw [ul_ne _ _ (by decide), ul_ne _ _ (by decide), ul_ne _ _ (by decide)]; exact h_gain.1, by rw [ul_ne _ _ (by decide), ul_ne _ _ (by decide), ul_ne _ _ (by decide)]; exact h_gain.2.1, by rw [ul_ne _ _ (by decide), ul_ne _ _ (by decide), ul_ne _ _ (by decide)]; exact h_gain.2.2.1, by rw [ul_ne _ _ (by decide), ul_ne _ _ (by decide), ul_ne _ _ (by decide)]; exact h_gain.2.2.2.1, by rw [ul_ne _ _ (by decide), ul_ne _ _ (by decide), ul_ne _ _ (by decide)]; exact h_gain.2.2.2.2.1, by rw [ul_ne _ _ (by decide), ul_ne _ _ (by decide), ul_ne _ _ (by decide)]; exact h_gain.2.2.2.2.2.1, by rw [ul_ne _ _ (by decide), ul_ne _ _ (by decide)]; exact ul_eq _ _ _, by rw [ul_ne _ _ (by decide)]; exact ul_eq _ _ _, ul_eq _ _ _⟩
    · show (Rs 0 ((f_X6_setGains_m_points (ym_m_mode M) (ym_m_points M) 2 np ni nd) 0) (ym_m_at M) (ym_m_then M) (yl_sn T.1) (yl_gm T.1) (yl_gp T.1) (yl_gi T.1) (yl_gd T.1)) ∧ (Rs 1 ((f_X6_setGains_m_points (ym_m_mode M) (ym_m_points M) 2 np ni nd) 1) (ym_m_at M) (ym_m_then M) (yl_sn T.2.1) (yl_gm T.2.1) (yl_gp T.2.1) (yl_gi T.2.1) (yl_gd T.2.1)) ∧ (Rs 2 ((f_X6_setGains_m_points (ym_m_mode M) (ym_m_points M) 2 np ni nd) 2) (ym_m_at M) (ym_m_then M) (f_L_setGains_sn (yl_lmo T.2.2) (yl_sn T.2.2) np ni nd) (yl_gm T.2.2) (yl_gp T.2.2) (yl_gi T.2.2) (yl_gd T.2.2))
      simp only [f_L_setGains_sn, f_X6_setGains_m_points, if_pos hc, if_neg hz]
      exact ⟨rs_ne (by decide) h_sched.1, rs_ne (by decide) h_sched.2.1, rs_zero rfl⟩
    · show (Gb (yl_kp T.1) (yl_ki T.1) (yl_kd T.1)) ∧ (Gb (yl_kp T.2.1) (yl_ki T.2.1) (yl_kd T.2.1)) ∧ (Gb (f_L_setGains_kp (yl_lmo T.2.2) (yl_kp T.2.2) np ni nd) (f_L_setGains_ki (yl_lmo T.2.2) (yl_ki T.2.2) np ni nd) (f_L_setGains_kd (yl_lmo T.2.2) (yl_kd T.2.2) np ni nd))
      simp only [f_L_setGains_kp, f_L_setGains_ki, f_L_setGains_kd, if_pos hc]
      exact ⟨h_i_gb.1, h_i_gb.2.1, gs_ok hc⟩
  · have hz : f_X6_can_j1_1 (f_X6_setGains_j1_1 (ym_m_mode M) 2 np ni nd) = 0 := can_no (by rw [hcd]; exact w123_n hc)
    refine ⟨?_, fun h => absurd h ?_, h_bs, h_a1, h_a2, h_b, h_deadTime, h_load, h_measure, h_before, h_low, h_high, h_setpoint, ?_, h_guard, h_share, h_mode, h_hand, h_follows, h_hasMaster, h_isStarved, h_held, h_sum, h_lastError, h_lastRate, h_experiment, h_center, h_height, h_band, h_isUp, h_gone, h_risings, h_second, h_greatest, h_least, h_period, h_swing, ?_, h_past, h_go, ?_, h_i_lim, ?_, h_i_md, h_i_dt, h_i_me, h_i_st, h_i_up, h_i_gl, h_i_sw, h_i_rl, h_i_m0⟩
    · show (f_X6_setGains_j1_1 (ym_m_mode M) 2 np ni nd) = f_L_setGains_r (yl_lmo T.2.2) np ni nd
      rw [hcd]; unfold f_L_setGains_r; rw [if_neg hc]
    · show ¬ f_L_setGains_r (yl_lmo T.2.2) np ni nd = 0
      unfold f_L_setGains_r; rw [if_neg hc]; exact w123_n hc
    · show e3 (f_X6_setGains_m_integral (ym_m_measure M) (ym_m_before M) (ym_m_gain M) (ym_m_setpoint M) (ym_m_integral M) (ym_m_mode M) 2 np ni nd) (yl_kig T.1) (yl_kig T.2.1) (f_L_setGains_kig (yl_lmo T.2.2) (yl_kp T.2.2) (yl_kd T.2.2) (yl_ksp T.2.2) (yl_kig T.2.2) (yl_pme T.2.2) (yl_pmb T.2.2) np ni nd)
      simp only [f_L_setGains_kig, f_X6_setGains_m_integral, if_neg hc, if_pos hz]
      exact h_integral
    · show (f_X6_setGains_m_gain (ym_m_gain M) (ym_m_mode M) 2 np ni nd) 0 = (yl_kp T.1).toInt64 ∧ (f_X6_setGains_m_gain (ym_m_gain M) (ym_m_mode M) 2 np ni nd) 1 = (yl_ki T.1).toInt64 ∧ (f_X6_setGains_m_gain (ym_m_gain M) (ym_m_mode M) 2 np ni nd) 2 = (yl_kd T.1).toInt64 ∧ (f_X6_setGains_m_gain (ym_m_gain M) (ym_m_mode M) 2 np ni nd) 3 = (yl_kp T.2.1).toInt64 ∧ (f_X6_setGains_m_gain (ym_m_gain M) (ym_m_mode M) 2 np ni nd) 4 = (yl_ki T.2.1).toInt64 ∧ (f_X6_setGains_m_gain (ym_m_gain M) (ym_m_mode M) 2 np ni nd) 5 = (yl_kd T.2.1).toInt64 ∧ (f_X6_setGains_m_gain (ym_m_gain M) (ym_m_mode M) 2 np ni nd) 6 = (f_L_setGains_kp (yl_lmo T.2.2) (yl_kp T.2.2) np ni nd).toInt64 ∧ (f_X6_setGains_m_gain (ym_m_gain M) (ym_m_mode M) 2 np ni nd) 7 = (f_L_setGains_ki (yl_lmo T.2.2) (yl_ki T.2.2) np ni nd).toInt64 ∧ (f_X6_setGains_m_gain (ym_m_gain M) (ym_m_mode M) 2 np ni nd) 8 = (f_L_setGains_kd (yl_lmo T.2.2) (yl_kd T.2.2) np ni nd).toInt64
      simp only [f_L_setGains_kp, f_L_setGains_ki, f_L_setGains_kd, f_X6_setGains_m_gain, if_neg hc, if_pos hz]
      exact h_gain
    · show (Rs 0 ((f_X6_setGains_m_points (ym_m_mode M) (ym_m_points M) 2 np ni nd) 0) (ym_m_at M) (ym_m_then M) (yl_sn T.1) (yl_gm T.1) (yl_gp T.1) (yl_gi T.1) (yl_gd T.1)) ∧ (Rs 1 ((f_X6_setGains_m_points (ym_m_mode M) (ym_m_points M) 2 np ni nd) 1) (ym_m_at M) (ym_m_then M) (yl_sn T.2.1) (yl_gm T.2.1) (yl_gp T.2.1) (yl_gi T.2.1) (yl_gd T.2.1)) ∧ (Rs 2 ((f_X6_setGains_m_points (ym_m_mode M) (ym_m_points M) 2 np ni nd) 2) (ym_m_at M) (ym_m_then M) (f_L_setGains_sn (yl_lmo T.2.2) (yl_sn T.2.2) np ni nd) (yl_gm T.2.2) (yl_gp T.2.2) (yl_gi T.2.2) (yl_gd T.2.2))
      simp only [f_L_setGains_sn, f_X6_setGains_m_points, if_neg hc, if_pos hz]
      exact h_sched
    · show (Gb (yl_kp T.1) (yl_ki T.1) (yl_kd T.1)) ∧ (Gb (yl_kp T.2.1) (yl_ki T.2.1) (yl_kd T.2.1)) ∧ (Gb (f_L_setGains_kp (yl_lmo T.2.2) (yl_kp T.2.2) np ni nd) (f_L_setGains_ki (yl_lmo T.2.2) (yl_ki T.2.2) np ni nd) (f_L_setGains_kd (yl_lmo T.2.2) (yl_kd T.2.2) np ni nd))
      simp only [f_L_setGains_kp, f_L_setGains_ki, f_L_setGains_kd, if_neg hc]
      exact h_i_gb
theorem rel_setGains (hR : Rel T bs M) (lp : Int32) (np : Int32) (ni : Int32) (nd : Int32) (uo : Nat → Int64) : rm_thrown (um_setGains M lp np ni nd) = ofL T lp (fun s => lr_setGains s np ni nd) 1 ∧ (ofL T lp (fun s => lr_setGains s np ni nd) 1 = 0 → (ofL T lp (fun s => lo_setGains s uo np ni nd) uo) (0 : Int32).toNatClampNeg = (rm_setGains M lp np ni nd).toInt64) ∧ Rel (onL T lp (fun s => lu_setGains s np ni nd)) bs (um_setGains M lp np ni nd) := by
  by_cases h0 : lp = 0
  · subst h0
    rw [ofL_0, ofL_0, onL_0]
    exact rel_setGains_0 hR np ni nd uo
  by_cases h1 : lp = 1
  · subst h1
    rw [ofL_1, ofL_1, onL_1]
    exact rel_setGains_1 hR np ni nd uo
  by_cases h2 : lp = 2
  · subst h2
    rw [ofL_2, ofL_2, onL_2]
    exact rel_setGains_2 hR np ni nd uo
  rw [ofL_o T _ _ h0 h1 h2, ofL_o T _ _ h0 h1 h2, onL_o T _ h0 h1 h2]
  have hcd : (f_X6_setGains_j1_1 (ym_m_mode M) lp np ni nd) = 1 := by simp only [f_X6_setGains_j1_1, il_o h0 h1 h2]; rfl
  have hz : f_X6_can_j1_1 (f_X6_setGains_j1_1 (ym_m_mode M) lp np ni nd) = 0 := can_no (by rw [hcd]; decide)
  obtain ⟨h_bs, h_a1, h_a2, h_b, h_deadTime, h_load, h_measure, h_before, h_low, h_high, h_setpoint, h_integral, h_guard, h_share, h_mode, h_hand, h_follows, h_hasMaster, h_isStarved, h_held, h_sum, h_lastError, h_lastRate, h_experiment, h_center, h_height, h_band, h_isUp, h_gone, h_risings, h_second, h_greatest, h_least, h_period, h_swing, h_gain, h_past, h_go, h_sched, h_i_lim, h_i_gb, h_i_md, h_i_dt, h_i_me, h_i_st, h_i_up, h_i_gl, h_i_sw, h_i_rl, h_i_m0⟩ := Rel_iff.mp hR
  refine ⟨hcd, fun h => absurd h (by decide), h_bs, h_a1, h_a2, h_b, h_deadTime, h_load, h_measure, h_before, h_low, h_high, h_setpoint, ?_, h_guard, h_share, h_mode, h_hand, h_follows, h_hasMaster, h_isStarved, h_held, h_sum, h_lastError, h_lastRate, h_experiment, h_center, h_height, h_band, h_isUp, h_gone, h_risings, h_second, h_greatest, h_least, h_period, h_swing, ?_, h_past, h_go, ?_, h_i_lim, h_i_gb, h_i_md, h_i_dt, h_i_me, h_i_st, h_i_up, h_i_gl, h_i_sw, h_i_rl, h_i_m0⟩
  · show e3 (f_X6_setGains_m_integral (ym_m_measure M) (ym_m_before M) (ym_m_gain M) (ym_m_setpoint M) (ym_m_integral M) (ym_m_mode M) lp np ni nd) (yl_kig T.1) (yl_kig T.2.1) (yl_kig T.2.2)
    simp only [f_X6_setGains_m_integral, if_pos hz]
    exact h_integral
  · show (f_X6_setGains_m_gain (ym_m_gain M) (ym_m_mode M) lp np ni nd) 0 = (yl_kp T.1).toInt64 ∧ (f_X6_setGains_m_gain (ym_m_gain M) (ym_m_mode M) lp np ni nd) 1 = (yl_ki T.1).toInt64 ∧ (f_X6_setGains_m_gain (ym_m_gain M) (ym_m_mode M) lp np ni nd) 2 = (yl_kd T.1).toInt64 ∧ (f_X6_setGains_m_gain (ym_m_gain M) (ym_m_mode M) lp np ni nd) 3 = (yl_kp T.2.1).toInt64 ∧ (f_X6_setGains_m_gain (ym_m_gain M) (ym_m_mode M) lp np ni nd) 4 = (yl_ki T.2.1).toInt64 ∧ (f_X6_setGains_m_gain (ym_m_gain M) (ym_m_mode M) lp np ni nd) 5 = (yl_kd T.2.1).toInt64 ∧ (f_X6_setGains_m_gain (ym_m_gain M) (ym_m_mode M) lp np ni nd) 6 = (yl_kp T.2.2).toInt64 ∧ (f_X6_setGains_m_gain (ym_m_gain M) (ym_m_mode M) lp np ni nd) 7 = (yl_ki T.2.2).toInt64 ∧ (f_X6_setGains_m_gain (ym_m_gain M) (ym_m_mode M) lp np ni nd) 8 = (yl_kd T.2.2).toInt64
    simp only [f_X6_setGains_m_gain, if_pos hz]
    exact h_gain
  · show (Rs 0 ((f_X6_setGains_m_points (ym_m_mode M) (ym_m_points M) lp np ni nd) 0) (ym_m_at M) (ym_m_then M) (yl_sn T.1) (yl_gm T.1) (yl_gp T.1) (yl_gi T.1) (yl_gd T.1)) ∧ (Rs 1 ((f_X6_setGains_m_points (ym_m_mode M) (ym_m_points M) lp np ni nd) 1) (ym_m_at M) (ym_m_then M) (yl_sn T.2.1) (yl_gm T.2.1) (yl_gp T.2.1) (yl_gi T.2.1) (yl_gd T.2.1)) ∧ (Rs 2 ((f_X6_setGains_m_points (ym_m_mode M) (ym_m_points M) lp np ni nd) 2) (ym_m_at M) (ym_m_then M) (yl_sn T.2.2) (yl_gm T.2.2) (yl_gp T.2.2) (yl_gi T.2.2) (yl_gd T.2.2))
    simp only [f_X6_setGains_m_points, if_pos hz]
    exact h_sched
set_option maxHeartbeats 1000000 in
theorem rel_addPoint_0 (hR : Rel T bs M) (mev : Int32) (np : Int32) (ni : Int32) (nd : Int32) (uo : Nat → Int64) : rm_thrown (um_addPoint M 0 mev np ni nd) = lr_addPoint T.1 mev np ni nd ∧ (lr_addPoint T.1 mev np ni nd = 0 → lo_addPoint T.1 uo mev np ni nd (0 : Int32).toNatClampNeg = (rm_addPoint M 0 mev np ni nd).toInt64) ∧ Rel ((lu_addPoint T.1 mev np ni nd), T.2.1, T.2.2) bs (um_addPoint M 0 mev np ni nd) := by
  obtain ⟨h_bs, h_a1, h_a2, h_b, h_deadTime, h_load, h_measure, h_before, h_low, h_high, h_setpoint, h_integral, h_guard, h_share, h_mode, h_hand, h_follows, h_hasMaster, h_isStarved, h_held, h_sum, h_lastError, h_lastRate, h_experiment, h_center, h_height, h_band, h_isUp, h_gone, h_risings, h_second, h_greatest, h_least, h_period, h_swing, h_gain, h_past, h_go, h_sched, h_i_lim, h_i_gb, h_i_md, h_i_dt, h_i_me, h_i_st, h_i_up, h_i_gl, h_i_sw, h_i_rl, h_i_m0⟩ := Rel_iff.mp hR
  have hsch : Rs 0 (ym_m_points M (0 : Int32).toNatClampNeg) (ym_m_at M) (ym_m_then M) (yl_sn T.1) (yl_gm T.1) (yl_gp T.1) (yl_gi T.1) (yl_gd T.1) := h_sched.1
  have hcd : (f_X6_addPoint_j2_1 (ym_m_points M) (ym_m_at M) 0 mev np ni nd) = wr123 (f_X5_addPoint_x (yl_sn T.1) (yl_gm T.1) mev np ni nd) := cd_addPoint il_0 (k := 0) rfl (by decide) hsch
  by_cases hc : (f_X5_addPoint_x (yl_sn T.1) (yl_gm T.1) mev np ni nd) = 0
  · have hz : ¬ f_X6_can_j1_1 (f_X6_addPoint_j2_1 (ym_m_points M) (ym_m_at M) 0 mev np ni nd) = 0 := can_ok (by rw [hcd]; exact w123_0 hc)
    refine ⟨?_, fun _ => ?_, h_bs, h_a1, h_a2, h_b, h_deadTime, h_load, h_measure, h_before, h_low, h_high, h_setpoint, h_integral, h_guard, h_share, h_mode, h_hand, h_follows, h_hasMaster, h_isStarved, h_held, h_sum, h_lastError, h_lastRate, h_experiment, h_center, h_height, h_band, h_isUp, h_gone, h_risings, h_second, h_greatest, h_least, h_period, h_swing, h_gain, h_past, h_go, ?_, h_i_lim, h_i_gb, h_i_md, h_i_dt, h_i_me, h_i_st, h_i_up, h_i_gl, h_i_sw, h_i_rl, h_i_m0⟩
    · show (f_X6_addPoint_j2_1 (ym_m_points M) (ym_m_at M) 0 mev np ni nd) = f_L_addPoint_r (yl_sn T.1) (yl_gm T.1) mev np ni nd
      rw [hcd]; unfold f_L_addPoint_r; rw [if_pos hc]; exact w123_0 hc
    · show (f_L_addPoint_uo (yl_sn T.1) (yl_gm T.1) uo mev np ni nd) (0 : Int32).toNatClampNeg = (f_X6_addPoint_r (ym_m_points M) (ym_m_at M) 0 mev np ni nd).toInt64
      simp only [f_L_addPoint_uo, f_X6_addPoint_r, if_pos hc, if_neg hz]
      rw [ul_eq]
      exact ap_res hsch hc
    · show (Rs 0 ((f_X6_addPoint_m_points (ym_m_points M) (ym_m_at M) 0 mev np ni nd) 0) (f_X6_addPoint_m_at (ym_m_points M) (ym_m_at M) 0 mev np ni nd) (f_X6_addPoint_m_then (ym_m_points M) (ym_m_at M) (ym_m_then M) 0 mev np ni nd) (f_L_addPoint_sn (yl_sn T.1) (yl_gm T.1) mev np ni nd) (f_L_addPoint_gm (yl_sn T.1) (yl_gm T.1) mev np ni nd) (f_L_addPoint_gp (yl_sn T.1) (yl_gm T.1) (yl_gp T.1) mev np ni nd) (f_L_addPoint_gi (yl_sn T.1) (yl_gm T.1) (yl_gi T.1) mev np ni nd) (f_L_addPoint_gd (yl_sn T.1) (yl_gm T.1) (yl_gd T.1) mev np ni nd)) ∧ (Rs 1 ((f_X6_addPoint_m_points (ym_m_points M) (ym_m_at M) 0 mev np ni nd) 1) (f_X6_addPoint_m_at (ym_m_points M) (ym_m_at M) 0 mev np ni nd) (f_X6_addPoint_m_then (ym_m_points M) (ym_m_at M) (ym_m_then M) 0 mev np ni nd) (yl_sn T.2.1) (yl_gm T.2.1) (yl_gp T.2.1) (yl_gi T.2.1) (yl_gd T.2.1)) ∧ (Rs 2 ((f_X6_addPoint_m_points (ym_m_points M) (ym_m_at M) 0 mev np ni nd) 2) (f_X6_addPoint_m_at (ym_m_points M) (ym_m_at M) 0 mev np ni nd) (f_X6_addPoint_m_then (ym_m_points M) (ym_m_at M) (ym_m_then M) 0 mev np ni nd) (yl_sn T.2.2) (yl_gm T.2.2) (yl_gp T.2.2) (yl_gi T.2.2) (yl_gd T.2.2))
      simp only [f_L_addPoint_sn, f_L_addPoint_gm, f_L_addPoint_gp, f_L_addPoint_gi, f_L_addPoint_gd, f_X6_addPoint_m_points, f_X6_addPoint_m_at, f_X6_addPoint_m_then, if_pos hc, if_neg hz]
      exact ⟨ap_sched rfl (by decide) hsch hc, ap_other (k := 0) rfl (by decide) (by decide) hsch hc h_sched.2.1, ap_other (k := 0) rfl (by decide) (by decide) hsch hc h_sched.2.2⟩
  · have hz : f_X6_can_j1_1 (f_X6_addPoint_j2_1 (ym_m_points M) (ym_m_at M) 0 mev np ni nd) = 0 := can_no (by rw [hcd]; exact w123_n hc)
    refine ⟨?_, fun h => absurd h ?_, h_bs, h_a1, h_a2, h_b, h_deadTime, h_load, h_measure, h_before, h_low, h_high, h_setpoint, h_integral, h_guard, h_share, h_mode, h_hand, h_follows, h_hasMaster, h_isStarved, h_held, h_sum, h_lastError, h_lastRate, h_experiment, h_center, h_height, h_band, h_isUp, h_gone, h_risings, h_second, h_greatest, h_least, h_period, h_swing, h_gain, h_past, h_go, ?_, h_i_lim, h_i_gb, h_i_md, h_i_dt, h_i_me, h_i_st, h_i_up, h_i_gl, h_i_sw, h_i_rl, h_i_m0⟩
    · show (f_X6_addPoint_j2_1 (ym_m_points M) (ym_m_at M) 0 mev np ni nd) = f_L_addPoint_r (yl_sn T.1) (yl_gm T.1) mev np ni nd
      rw [hcd]; unfold f_L_addPoint_r; rw [if_neg hc]
    · show ¬ f_L_addPoint_r (yl_sn T.1) (yl_gm T.1) mev np ni nd = 0
      unfold f_L_addPoint_r; rw [if_neg hc]; exact w123_n hc
    · show (Rs 0 ((f_X6_addPoint_m_points (ym_m_points M) (ym_m_at M) 0 mev np ni nd) 0) (f_X6_addPoint_m_at (ym_m_points M) (ym_m_at M) 0 mev np ni nd) (f_X6_addPoint_m_then (ym_m_points M) (ym_m_at M) (ym_m_then M) 0 mev np ni nd) (f_L_addPoint_sn (yl_sn T.1) (yl_gm T.1) mev np ni nd) (f_L_addPoint_gm (yl_sn T.1) (yl_gm T.1) mev np ni nd) (f_L_addPoint_gp (yl_sn T.1) (yl_gm T.1) (yl_gp T.1) mev np ni nd) (f_L_addPoint_gi (yl_sn T.1) (yl_gm T.1) (yl_gi T.1) mev np ni nd) (f_L_addPoint_gd (yl_sn T.1) (yl_gm T.1) (yl_gd T.1) mev np ni nd)) ∧ (Rs 1 ((f_X6_addPoint_m_points (ym_m_points M) (ym_m_at M) 0 mev np ni nd) 1) (f_X6_addPoint_m_at (ym_m_points M) (ym_m_at M) 0 mev np ni nd) (f_X6_addPoint_m_then (ym_m_points M) (ym_m_at M) (ym_m_then M) 0 mev np ni nd) (yl_sn T.2.1) (yl_gm T.2.1) (yl_gp T.2.1) (yl_gi T.2.1) (yl_gd T.2.1)) ∧ (Rs 2 ((f_X6_addPoint_m_points (ym_m_points M) (ym_m_at M) 0 mev np ni nd) 2) (f_X6_addPoint_m_at (ym_m_points M) (ym_m_at M) 0 mev np ni nd) (f_X6_addPoint_m_then (ym_m_points M) (ym_m_at M) (ym_m_then M) 0 mev np ni nd) (yl_sn T.2.2) (yl_gm T.2.2) (yl_gp T.2.2) (yl_gi T.2.2) (yl_gd T.2.2))
      simp only [f_L_addPoint_sn, f_L_addPoint_gm, f_L_addPoint_gp, f_L_addPoint_gi, f_L_addPoint_gd, f_X6_addPoint_m_points, f_X6_addPoint_m_at, f_X6_addPoint_m_then, if_neg hc, if_pos hz]
      exact h_sched
set_option maxHeartbeats 1000000 in
theorem rel_addPoint_1 (hR : Rel T bs M) (mev : Int32) (np : Int32) (ni : Int32) (nd : Int32) (uo : Nat → Int64) : rm_thrown (um_addPoint M 1 mev np ni nd) = lr_addPoint T.2.1 mev np ni nd ∧ (lr_addPoint T.2.1 mev np ni nd = 0 → lo_addPoint T.2.1 uo mev np ni nd (0 : Int32).toNatClampNeg = (rm_addPoint M 1 mev np ni nd).toInt64) ∧ Rel (T.1, (lu_addPoint T.2.1 mev np ni nd), T.2.2) bs (um_addPoint M 1 mev np ni nd) := by
  obtain ⟨h_bs, h_a1, h_a2, h_b, h_deadTime, h_load, h_measure, h_before, h_low, h_high, h_setpoint, h_integral, h_guard, h_share, h_mode, h_hand, h_follows, h_hasMaster, h_isStarved, h_held, h_sum, h_lastError, h_lastRate, h_experiment, h_center, h_height, h_band, h_isUp, h_gone, h_risings, h_second, h_greatest, h_least, h_period, h_swing, h_gain, h_past, h_go, h_sched, h_i_lim, h_i_gb, h_i_md, h_i_dt, h_i_me, h_i_st, h_i_up, h_i_gl, h_i_sw, h_i_rl, h_i_m0⟩ := Rel_iff.mp hR
  have hsch : Rs 1 (ym_m_points M (1 : Int32).toNatClampNeg) (ym_m_at M) (ym_m_then M) (yl_sn T.2.1) (yl_gm T.2.1) (yl_gp T.2.1) (yl_gi T.2.1) (yl_gd T.2.1) := h_sched.2.1
  have hcd : (f_X6_addPoint_j2_1 (ym_m_points M) (ym_m_at M) 1 mev np ni nd) = wr123 (f_X5_addPoint_x (yl_sn T.2.1) (yl_gm T.2.1) mev np ni nd) := cd_addPoint il_1 (k := 1) rfl (by decide) hsch
  by_cases hc : (f_X5_addPoint_x (yl_sn T.2.1) (yl_gm T.2.1) mev np ni nd) = 0
  · have hz : ¬ f_X6_can_j1_1 (f_X6_addPoint_j2_1 (ym_m_points M) (ym_m_at M) 1 mev np ni nd) = 0 := can_ok (by rw [hcd]; exact w123_0 hc)
    refine ⟨?_, fun _ => ?_, h_bs, h_a1, h_a2, h_b, h_deadTime, h_load, h_measure, h_before, h_low, h_high, h_setpoint, h_integral, h_guard, h_share, h_mode, h_hand, h_follows, h_hasMaster, h_isStarved, h_held, h_sum, h_lastError, h_lastRate, h_experiment, h_center, h_height, h_band, h_isUp, h_gone, h_risings, h_second, h_greatest, h_least, h_period, h_swing, h_gain, h_past, h_go, ?_, h_i_lim, h_i_gb, h_i_md, h_i_dt, h_i_me, h_i_st, h_i_up, h_i_gl, h_i_sw, h_i_rl, h_i_m0⟩
    · show (f_X6_addPoint_j2_1 (ym_m_points M) (ym_m_at M) 1 mev np ni nd) = f_L_addPoint_r (yl_sn T.2.1) (yl_gm T.2.1) mev np ni nd
      rw [hcd]; unfold f_L_addPoint_r; rw [if_pos hc]; exact w123_0 hc
    · show (f_L_addPoint_uo (yl_sn T.2.1) (yl_gm T.2.1) uo mev np ni nd) (0 : Int32).toNatClampNeg = (f_X6_addPoint_r (ym_m_points M) (ym_m_at M) 1 mev np ni nd).toInt64
      simp only [f_L_addPoint_uo, f_X6_addPoint_r, if_pos hc, if_neg hz]
      rw [ul_eq]
      exact ap_res hsch hc
    · show (Rs 0 ((f_X6_addPoint_m_points (ym_m_points M) (ym_m_at M) 1 mev np ni nd) 0) (f_X6_addPoint_m_at (ym_m_points M) (ym_m_at M) 1 mev np ni nd) (f_X6_addPoint_m_then (ym_m_points M) (ym_m_at M) (ym_m_then M) 1 mev np ni nd) (yl_sn T.1) (yl_gm T.1) (yl_gp T.1) (yl_gi T.1) (yl_gd T.1)) ∧ (Rs 1 ((f_X6_addPoint_m_points (ym_m_points M) (ym_m_at M) 1 mev np ni nd) 1) (f_X6_addPoint_m_at (ym_m_points M) (ym_m_at M) 1 mev np ni nd) (f_X6_addPoint_m_then (ym_m_points M) (ym_m_at M) (ym_m_then M) 1 mev np ni nd) (f_L_addPoint_sn (yl_sn T.2.1) (yl_gm T.2.1) mev np ni nd) (f_L_addPoint_gm (yl_sn T.2.1) (yl_gm T.2.1) mev np ni nd) (f_L_addPoint_gp (yl_sn T.2.1) (yl_gm T.2.1) (yl_gp T.2.1) mev np ni nd) (f_L_addPoint_gi (yl_sn T.2.1) (yl_gm T.2.1) (yl_gi T.2.1) mev np ni nd) (f_L_addPoint_gd (yl_sn T.2.1) (yl_gm T.2.1) (yl_gd T.2.1) mev np ni nd)) ∧ (Rs 2 ((f_X6_addPoint_m_points (ym_m_points M) (ym_m_at M) 1 mev np ni nd) 2) (f_X6_addPoint_m_at (ym_m_points M) (ym_m_at M) 1 mev np ni nd) (f_X6_addPoint_m_then (ym_m_points M) (ym_m_at M) (ym_m_then M) 1 mev np ni nd) (yl_sn T.2.2) (yl_gm T.2.2) (yl_gp T.2.2) (yl_gi T.2.2) (yl_gd T.2.2))
      simp only [f_L_addPoint_sn, f_L_addPoint_gm, f_L_addPoint_gp, f_L_addPoint_gi, f_L_addPoint_gd, f_X6_addPoint_m_points, f_X6_addPoint_m_at, f_X6_addPoint_m_then, if_pos hc, if_neg hz]
      exact ⟨ap_other (k := 1) rfl (by decide) (by decide) hsch hc h_sched.1, ap_sched rfl (by decide) hsch hc, ap_other (k := 1) rfl (by decide) (by decide) hsch hc h_sched.2.2⟩
  · have hz : f_X6_can_j1_1 (f_X6_addPoint_j2_1 (ym_m_points M) (ym_m_at M) 1 mev np ni nd) = 0 := can_no (by rw [hcd]; exact w123_n hc)
    refine ⟨?_, fun h => absurd h ?_, h_bs, h_a1, h_a2, h_b, h_deadTime, h_load, h_measure, h_before, h_low, h_high, h_setpoint, h_integral, h_guard, h_share, h_mode, h_hand, h_follows, h_hasMaster, h_isStarved, h_held, h_sum, h_lastError, h_lastRate, h_experiment, h_center, h_height, h_band, h_isUp, h_gone, h_risings, h_second, h_greatest, h_least, h_period, h_swing, h_gain, h_past, h_go, ?_, h_i_lim, h_i_gb, h_i_md, h_i_dt, h_i_me, h_i_st, h_i_up, h_i_gl, h_i_sw, h_i_rl, h_i_m0⟩
    · show (f_X6_addPoint_j2_1 (ym_m_points M) (ym_m_at M) 1 mev np ni nd) = f_L_addPoint_r (yl_sn T.2.1) (yl_gm T.2.1) mev np ni nd
      rw [hcd]; unfold f_L_addPoint_r; rw [if_neg hc]
    · show ¬ f_L_addPoint_r (yl_sn T.2.1) (yl_gm T.2.1) mev np ni nd = 0
      unfold f_L_addPoint_r; rw [if_neg hc]; exact w123_n hc
    · show (Rs 0 ((f_X6_addPoint_m_points (ym_m_points M) (ym_m_at M) 1 mev np ni nd) 0) (f_X6_addPoint_m_at (ym_m_points M) (ym_m_at M) 1 mev np ni nd) (f_X6_addPoint_m_then (ym_m_points M) (ym_m_at M) (ym_m_then M) 1 mev np ni nd) (yl_sn T.1) (yl_gm T.1) (yl_gp T.1) (yl_gi T.1) (yl_gd T.1)) ∧ (Rs 1 ((f_X6_addPoint_m_points (ym_m_points M) (ym_m_at M) 1 mev np ni nd) 1) (f_X6_addPoint_m_at (ym_m_points M) (ym_m_at M) 1 mev np ni nd) (f_X6_addPoint_m_then (ym_m_points M) (ym_m_at M) (ym_m_then M) 1 mev np ni nd) (f_L_addPoint_sn (yl_sn T.2.1) (yl_gm T.2.1) mev np ni nd) (f_L_addPoint_gm (yl_sn T.2.1) (yl_gm T.2.1) mev np ni nd) (f_L_addPoint_gp (yl_sn T.2.1) (yl_gm T.2.1) (yl_gp T.2.1) mev np ni nd) (f_L_addPoint_gi (yl_sn T.2.1) (yl_gm T.2.1) (yl_gi T.2.1) mev np ni nd) (f_L_addPoint_gd (yl_sn T.2.1) (yl_gm T.2.1) (yl_gd T.2.1) mev np ni nd)) ∧ (Rs 2 ((f_X6_addPoint_m_points (ym_m_points M) (ym_m_at M) 1 mev np ni nd) 2) (f_X6_addPoint_m_at (ym_m_points M) (ym_m_at M) 1 mev np ni nd) (f_X6_addPoint_m_then (ym_m_points M) (ym_m_at M) (ym_m_then M) 1 mev np ni nd) (yl_sn T.2.2) (yl_gm T.2.2) (yl_gp T.2.2) (yl_gi T.2.2) (yl_gd T.2.2))
      simp only [f_L_addPoint_sn, f_L_addPoint_gm, f_L_addPoint_gp, f_L_addPoint_gi, f_L_addPoint_gd, f_X6_addPoint_m_points, f_X6_addPoint_m_at, f_X6_addPoint_m_then, if_neg hc, if_pos hz]
      exact h_sched
set_option maxHeartbeats 1000000 in
theorem rel_addPoint_2 (hR : Rel T bs M) (mev : Int32) (np : Int32) (ni : Int32) (nd : Int32) (uo : Nat → Int64) : rm_thrown (um_addPoint M 2 mev np ni nd) = lr_addPoint T.2.2 mev np ni nd ∧ (lr_addPoint T.2.2 mev np ni nd = 0 → lo_addPoint T.2.2 uo mev np ni nd (0 : Int32).toNatClampNeg = (rm_addPoint M 2 mev np ni nd).toInt64) ∧ Rel (T.1, T.2.1, (lu_addPoint T.2.2 mev np ni nd)) bs (um_addPoint M 2 mev np ni nd) := by
  obtain ⟨h_bs, h_a1, h_a2, h_b, h_deadTime, h_load, h_measure, h_before, h_low, h_high, h_setpoint, h_integral, h_guard, h_share, h_mode, h_hand, h_follows, h_hasMaster, h_isStarved, h_held, h_sum, h_lastError, h_lastRate, h_experiment, h_center, h_height, h_band, h_isUp, h_gone, h_risings, h_second, h_greatest, h_least, h_period, h_swing, h_gain, h_past, h_go, h_sched, h_i_lim, h_i_gb, h_i_md, h_i_dt, h_i_me, h_i_st, h_i_up, h_i_gl, h_i_sw, h_i_rl, h_i_m0⟩ := Rel_iff.mp hR
  have hsch : Rs 2 (ym_m_points M (2 : Int32).toNatClampNeg) (ym_m_at M) (ym_m_then M) (yl_sn T.2.2) (yl_gm T.2.2) (yl_gp T.2.2) (yl_gi T.2.2) (yl_gd T.2.2) := h_sched.2.2
  have hcd : (f_X6_addPoint_j2_1 (ym_m_points M) (ym_m_at M) 2 mev np ni nd) = wr123 (f_X5_addPoint_x (yl_sn T.2.2) (yl_gm T.2.2) mev np ni nd) := cd_addPoint il_2 (k := 2) rfl (by decide) hsch
  by_cases hc : (f_X5_addPoint_x (yl_sn T.2.2) (yl_gm T.2.2) mev np ni nd) = 0
  · have hz : ¬ f_X6_can_j1_1 (f_X6_addPoint_j2_1 (ym_m_points M) (ym_m_at M) 2 mev np ni nd) = 0 := can_ok (by rw [hcd]; exact w123_0 hc)
    refine ⟨?_, fun _ => ?_, h_bs, h_a1, h_a2, h_b, h_deadTime, h_load, h_measure, h_before, h_low, h_high, h_setpoint, h_integral, h_guard, h_share, h_mode, h_hand, h_follows, h_hasMaster, h_isStarved, h_held, h_sum, h_lastError, h_lastRate, h_experiment, h_center, h_height, h_band, h_isUp, h_gone, h_risings, h_second, h_greatest, h_least, h_period, h_swing, h_gain, h_past, h_go, ?_, h_i_lim, h_i_gb, h_i_md, h_i_dt, h_i_me, h_i_st, h_i_up, h_i_gl, h_i_sw, h_i_rl, h_i_m0⟩
    · show (f_X6_addPoint_j2_1 (ym_m_points M) (ym_m_at M) 2 mev np ni nd) = f_L_addPoint_r (yl_sn T.2.2) (yl_gm T.2.2) mev np ni nd
      rw [hcd]; unfold f_L_addPoint_r; rw [if_pos hc]; exact w123_0 hc
    · show (f_L_addPoint_uo (yl_sn T.2.2) (yl_gm T.2.2) uo mev np ni nd) (0 : Int32).toNatClampNeg = (f_X6_addPoint_r (ym_m_points M) (ym_m_at M) 2 mev np ni nd).toInt64
      simp only [f_L_addPoint_uo, f_X6_addPoint_r, if_pos hc, if_neg hz]
      rw [ul_eq]
      exact ap_res hsch hc
    · show (Rs 0 ((f_X6_addPoint_m_points (ym_m_points M) (ym_m_at M) 2 mev np ni nd) 0) (f_X6_addPoint_m_at (ym_m_points M) (ym_m_at M) 2 mev np ni nd) (f_X6_addPoint_m_then (ym_m_points M) (ym_m_at M) (ym_m_then M) 2 mev np ni nd) (yl_sn T.1) (yl_gm T.1) (yl_gp T.1) (yl_gi T.1) (yl_gd T.1)) ∧ (Rs 1 ((f_X6_addPoint_m_points (ym_m_points M) (ym_m_at M) 2 mev np ni nd) 1) (f_X6_addPoint_m_at (ym_m_points M) (ym_m_at M) 2 mev np ni nd) (f_X6_addPoint_m_then (ym_m_points M) (ym_m_at M) (ym_m_then M) 2 mev np ni nd) (yl_sn T.2.1) (yl_gm T.2.1) (yl_gp T.2.1) (yl_gi T.2.1) (yl_gd T.2.1)) ∧ (Rs 2 ((f_X6_addPoint_m_points (ym_m_points M) (ym_m_at M) 2 mev np ni nd) 2) (f_X6_addPoint_m_at (ym_m_points M) (ym_m_at M) 2 mev np ni nd) (f_X6_addPoint_m_then (ym_m_points M) (ym_m_at M) (ym_m_then M) 2 mev np ni nd) (f_L_addPoint_sn (yl_sn T.2.2) (yl_gm T.2.2) mev np ni nd) (f_L_addPoint_gm (yl_sn T.2.2) (yl_gm T.2.2) mev np ni nd) (f_L_addPoint_gp (yl_sn T.2.2) (yl_gm T.2.2) (yl_gp T.2.2) mev np ni nd) (f_L_addPoint_gi (yl_sn T.2.2) (yl_gm T.2.2) (yl_gi T.2.2) mev np ni nd) (f_L_addPoint_gd (yl_sn T.2.2) (yl_gm T.2.2) (yl_gd T.2.2) mev np ni nd))
      simp only [f_L_addPoint_sn, f_L_addPoint_gm, f_L_addPoint_gp, f_L_addPoint_gi, f_L_addPoint_gd, f_X6_addPoint_m_points, f_X6_addPoint_m_at, f_X6_addPoint_m_then, if_pos hc, if_neg hz]
      exact ⟨ap_other (k := 2) rfl (by decide) (by decide) hsch hc h_sched.1, ap_other (k := 2) rfl (by decide) (by decide) hsch hc h_sched.2.1, ap_sched rfl (by decide) hsch hc⟩
  · have hz : f_X6_can_j1_1 (f_X6_addPoint_j2_1 (ym_m_points M) (ym_m_at M) 2 mev np ni nd) = 0 := can_no (by rw [hcd]; exact w123_n hc)
    refine ⟨?_, fun h => absurd h ?_, h_bs, h_a1, h_a2, h_b, h_deadTime, h_load, h_measure, h_before, h_low, h_high, h_setpoint, h_integral, h_guard, h_share, h_mode, h_hand, h_follows, h_hasMaster, h_isStarved, h_held, h_sum, h_lastError, h_lastRate, h_experiment, h_center, h_height, h_band, h_isUp, h_gone, h_risings, h_second, h_greatest, h_least, h_period, h_swing, h_gain, h_past, h_go, ?_, h_i_lim, h_i_gb, h_i_md, h_i_dt, h_i_me, h_i_st, h_i_up, h_i_gl, h_i_sw, h_i_rl, h_i_m0⟩
    · show (f_X6_addPoint_j2_1 (ym_m_points M) (ym_m_at M) 2 mev np ni nd) = f_L_addPoint_r (yl_sn T.2.2) (yl_gm T.2.2) mev np ni nd
      rw [hcd]; unfold f_L_addPoint_r; rw [if_neg hc]
    · show ¬ f_L_addPoint_r (yl_sn T.2.2) (yl_gm T.2.2) mev np ni nd = 0
      unfold f_L_addPoint_r; rw [if_neg hc]; exact w123_n hc
    · show (Rs 0 ((f_X6_addPoint_m_points (ym_m_points M) (ym_m_at M) 2 mev np ni nd) 0) (f_X6_addPoint_m_at (ym_m_points M) (ym_m_at M) 2 mev np ni nd) (f_X6_addPoint_m_then (ym_m_points M) (ym_m_at M) (ym_m_then M) 2 mev np ni nd) (yl_sn T.1) (yl_gm T.1) (yl_gp T.1) (yl_gi T.1) (yl_gd T.1)) ∧ (Rs 1 ((f_X6_addPoint_m_points (ym_m_points M) (ym_m_at M) 2 mev np ni nd) 1) (f_X6_addPoint_m_at (ym_m_points M) (ym_m_at M) 2 mev np ni nd) (f_X6_addPoint_m_then (ym_m_points M) (ym_m_at M) (ym_m_then M) 2 mev np ni nd) (yl_sn T.2.1) (yl_gm T.2.1) (yl_gp T.2.1) (yl_gi T.2.1) (yl_gd T.2.1)) ∧ (Rs 2 ((f_X6_addPoint_m_points (ym_m_points M) (ym_m_at M) 2 mev np ni nd) 2) (f_X6_addPoint_m_at (ym_m_points M) (ym_m_at M) 2 mev np ni nd) (f_X6_addPoint_m_then (ym_m_points M) (ym_m_at M) (ym_m_then M) 2 mev np ni nd) (f_L_addPoint_sn (yl_sn T.2.2) (yl_gm T.2.2) mev np ni nd) (f_L_addPoint_gm (yl_sn T.2.2) (yl_gm T.2.2) mev np ni nd) (f_L_addPoint_gp (yl_sn T.2.2) (yl_gm T.2.2) (yl_gp T.2.2) mev np ni nd) (f_L_addPoint_gi (yl_sn T.2.2) (yl_gm T.2.2) (yl_gi T.2.2) mev np ni nd) (f_L_addPoint_gd (yl_sn T.2.2) (yl_gm T.2.2) (yl_gd T.2.2) mev np ni nd))
      simp only [f_L_addPoint_sn, f_L_addPoint_gm, f_L_addPoint_gp, f_L_addPoint_gi, f_L_addPoint_gd, f_X6_addPoint_m_points, f_X6_addPoint_m_at, f_X6_addPoint_m_then, if_neg hc, if_pos hz]
      exact h_sched
theorem rel_addPoint (hR : Rel T bs M) (lp : Int32) (mev : Int32) (np : Int32) (ni : Int32) (nd : Int32) (uo : Nat → Int64) : rm_thrown (um_addPoint M lp mev np ni nd) = ofL T lp (fun s => lr_addPoint s mev np ni nd) 1 ∧ (ofL T lp (fun s => lr_addPoint s mev np ni nd) 1 = 0 → (ofL T lp (fun s => lo_addPoint s uo mev np ni nd) uo) (0 : Int32).toNatClampNeg = (rm_addPoint M lp mev np ni nd).toInt64) ∧ Rel (onL T lp (fun s => lu_addPoint s mev np ni nd)) bs (um_addPoint M lp mev np ni nd) := by
  by_cases h0 : lp = 0
  · subst h0
    rw [ofL_0, ofL_0, onL_0]
    exact rel_addPoint_0 hR mev np ni nd uo
  by_cases h1 : lp = 1
  · subst h1
    rw [ofL_1, ofL_1, onL_1]
    exact rel_addPoint_1 hR mev np ni nd uo
  by_cases h2 : lp = 2
  · subst h2
    rw [ofL_2, ofL_2, onL_2]
    exact rel_addPoint_2 hR mev np ni nd uo
  rw [ofL_o T _ _ h0 h1 h2, ofL_o T _ _ h0 h1 h2, onL_o T _ h0 h1 h2]
  have hcd : (f_X6_addPoint_j2_1 (ym_m_points M) (ym_m_at M) lp mev np ni nd) = 1 := by simp only [f_X6_addPoint_j2_1, il_o h0 h1 h2]; rfl
  have hz : f_X6_can_j1_1 (f_X6_addPoint_j2_1 (ym_m_points M) (ym_m_at M) lp mev np ni nd) = 0 := can_no (by rw [hcd]; decide)
  obtain ⟨h_bs, h_a1, h_a2, h_b, h_deadTime, h_load, h_measure, h_before, h_low, h_high, h_setpoint, h_integral, h_guard, h_share, h_mode, h_hand, h_follows, h_hasMaster, h_isStarved, h_held, h_sum, h_lastError, h_lastRate, h_experiment, h_center, h_height, h_band, h_isUp, h_gone, h_risings, h_second, h_greatest, h_least, h_period, h_swing, h_gain, h_past, h_go, h_sched, h_i_lim, h_i_gb, h_i_md, h_i_dt, h_i_me, h_i_st, h_i_up, h_i_gl, h_i_sw, h_i_rl, h_i_m0⟩ := Rel_iff.mp hR
  refine ⟨hcd, fun h => absurd h (by decide), h_bs, h_a1, h_a2, h_b, h_deadTime, h_load, h_measure, h_before, h_low, h_high, h_setpoint, h_integral, h_guard, h_share, h_mode, h_hand, h_follows, h_hasMaster, h_isStarved, h_held, h_sum, h_lastError, h_lastRate, h_experiment, h_center, h_height, h_band, h_isUp, h_gone, h_risings, h_second, h_greatest, h_least, h_period, h_swing, h_gain, h_past, h_go, ?_, h_i_lim, h_i_gb, h_i_md, h_i_dt, h_i_me, h_i_st, h_i_up, h_i_gl, h_i_sw, h_i_rl, h_i_m0⟩
  · show (Rs 0 ((f_X6_addPoint_m_points (ym_m_points M) (ym_m_at M) lp mev np ni nd) 0) (f_X6_addPoint_m_at (ym_m_points M) (ym_m_at M) lp mev np ni nd) (f_X6_addPoint_m_then (ym_m_points M) (ym_m_at M) (ym_m_then M) lp mev np ni nd) (yl_sn T.1) (yl_gm T.1) (yl_gp T.1) (yl_gi T.1) (yl_gd T.1)) ∧ (Rs 1 ((f_X6_addPoint_m_points (ym_m_points M) (ym_m_at M) lp mev np ni nd) 1) (f_X6_addPoint_m_at (ym_m_points M) (ym_m_at M) lp mev np ni nd) (f_X6_addPoint_m_then (ym_m_points M) (ym_m_at M) (ym_m_then M) lp mev np ni nd) (yl_sn T.2.1) (yl_gm T.2.1) (yl_gp T.2.1) (yl_gi T.2.1) (yl_gd T.2.1)) ∧ (Rs 2 ((f_X6_addPoint_m_points (ym_m_points M) (ym_m_at M) lp mev np ni nd) 2) (f_X6_addPoint_m_at (ym_m_points M) (ym_m_at M) lp mev np ni nd) (f_X6_addPoint_m_then (ym_m_points M) (ym_m_at M) (ym_m_then M) lp mev np ni nd) (yl_sn T.2.2) (yl_gm T.2.2) (yl_gp T.2.2) (yl_gi T.2.2) (yl_gd T.2.2))
    simp only [f_X6_addPoint_m_points, f_X6_addPoint_m_at, f_X6_addPoint_m_then, if_pos hz]
    exact h_sched
set_option maxHeartbeats 1000000 in
theorem rel_setLimits_0 (hR : Rel T bs M) (lov : Int32) (hiv : Int32) : rm_thrown (um_setLimits M 0 lov hiv) = lr_setLimits T.1 lov hiv ∧ Rel ((lu_setLimits T.1 lov hiv), T.2.1, T.2.2) bs (um_setLimits M 0 lov hiv) := by
  obtain ⟨h_bs, h_a1, h_a2, h_b, h_deadTime, h_load, h_measure, h_before, h_low, h_high, h_setpoint, h_integral, h_guard, h_share, h_mode, h_hand, h_follows, h_hasMaster, h_isStarved, h_held, h_sum, h_lastError, h_lastRate, h_experiment, h_center, h_height, h_band, h_isUp, h_gone, h_risings, h_second, h_greatest, h_least, h_period, h_swing, h_gain, h_past, h_go, h_sched, h_i_lim, h_i_gb, h_i_md, h_i_dt, h_i_me, h_i_st, h_i_up, h_i_gl, h_i_sw, h_i_rl, h_i_m0⟩ := Rel_iff.mp hR
  have hcd : (f_X6_setLimits_j1_1 0 lov hiv) = wr12 (f_X5_setLimits_x lov hiv) := cd_setLimits il_0
  by_cases hc : (f_X5_setLimits_x lov hiv) = 0
  · have hz : ¬ f_X6_can_j1_1 (f_X6_setLimits_j1_1 0 lov hiv) = 0 := can_ok (by rw [hcd]; exact w12_0 hc)
    refine ⟨?_, h_bs, h_a1, h_a2, h_b, h_deadTime, h_load, h_measure, h_before, ?_, ?_, h_setpoint, h_integral, h_guard, h_share, h_mode, h_hand, h_follows, h_hasMaster, h_isStarved, h_held, h_sum, h_lastError, h_lastRate, h_experiment, h_center, h_height, h_band, h_isUp, h_gone, h_risings, h_second, h_greatest, h_least, h_period, h_swing, h_gain, h_past, h_go, h_sched, ?_, h_i_gb, h_i_md, h_i_dt, h_i_me, h_i_st, h_i_up, h_i_gl, h_i_sw, h_i_rl, h_i_m0⟩
    · show (f_X6_setLimits_j1_1 0 lov hiv) = f_L_setLimits_r lov hiv
      rw [hcd]; unfold f_L_setLimits_r; rw [if_pos hc]; exact w12_0 hc
    · show e3 (f_X6_setLimits_j2_1 (ym_m_low M) 0 lov hiv) (f_L_setLimits_klo (yl_klo T.1) lov hiv).toInt64 (yl_klo T.2.1).toInt64 (yl_klo T.2.2).toInt64
      simp only [f_L_setLimits_klo, f_X6_setLimits_j2_1, if_pos hc, if_neg hz]
      exact ⟨(ul_eq _ _ _), ((ul_ne _ _ (by decide)).trans h_low.2.1), ((ul_ne _ _ (by decide)).trans h_low.2.2)⟩
    · show e3 (f_X6_setLimits_j2_2 (ym_m_high M) 0 lov hiv) (f_L_setLimits_khi (yl_khi T.1) lov hiv).toInt64 (yl_khi T.2.1).toInt64 (yl_khi T.2.2).toInt64
      simp only [f_L_setLimits_khi, f_X6_setLimits_j2_2, if_pos hc, if_neg hz]
      exact ⟨(ul_eq _ _ _), ((ul_ne _ _ (by decide)).trans h_high.2.1), ((ul_ne _ _ (by decide)).trans h_high.2.2)⟩
    · show (Ilim (f_L_setLimits_klo (yl_klo T.1) lov hiv) (f_L_setLimits_khi (yl_khi T.1) lov hiv)) ∧ (Ilim (yl_klo T.2.1) (yl_khi T.2.1)) ∧ (Ilim (yl_klo T.2.2) (yl_khi T.2.2))
      simp only [f_L_setLimits_klo, f_L_setLimits_khi, if_pos hc]
      exact ⟨li_ok hc, h_i_lim.2.1, h_i_lim.2.2⟩
  · have hz : f_X6_can_j1_1 (f_X6_setLimits_j1_1 0 lov hiv) = 0 := can_no (by rw [hcd]; exact w12_n hc)
    refine ⟨?_, h_bs, h_a1, h_a2, h_b, h_deadTime, h_load, h_measure, h_before, ?_, ?_, h_setpoint, h_integral, h_guard, h_share, h_mode, h_hand, h_follows, h_hasMaster, h_isStarved, h_held, h_sum, h_lastError, h_lastRate, h_experiment, h_center, h_height, h_band, h_isUp, h_gone, h_risings, h_second, h_greatest, h_least, h_period, h_swing, h_gain, h_past, h_go, h_sched, ?_, h_i_gb, h_i_md, h_i_dt, h_i_me, h_i_st, h_i_up, h_i_gl, h_i_sw, h_i_rl, h_i_m0⟩
    · show (f_X6_setLimits_j1_1 0 lov hiv) = f_L_setLimits_r lov hiv
      rw [hcd]; unfold f_L_setLimits_r; rw [if_neg hc]
    · show e3 (f_X6_setLimits_j2_1 (ym_m_low M) 0 lov hiv) (f_L_setLimits_klo (yl_klo T.1) lov hiv).toInt64 (yl_klo T.2.1).toInt64 (yl_klo T.2.2).toInt64
      simp only [f_L_setLimits_klo, f_X6_setLimits_j2_1, if_neg hc, if_pos hz]
      exact h_low
    · show e3 (f_X6_setLimits_j2_2 (ym_m_high M) 0 lov hiv) (f_L_setLimits_khi (yl_khi T.1) lov hiv).toInt64 (yl_khi T.2.1).toInt64 (yl_khi T.2.2).toInt64
      simp only [f_L_setLimits_khi, f_X6_setLimits_j2_2, if_neg hc, if_pos hz]
      exact h_high
    · show (Ilim (f_L_setLimits_klo (yl_klo T.1) lov hiv) (f_L_setLimits_khi (yl_khi T.1) lov hiv)) ∧ (Ilim (yl_klo T.2.1) (yl_khi T.2.1)) ∧ (Ilim (yl_klo T.2.2) (yl_khi T.2.2))
      simp only [f_L_setLimits_klo, f_L_setLimits_khi, if_neg hc]
      exact h_i_lim
set_option maxHeartbeats 1000000 in
theorem rel_setLimits_1 (hR : Rel T bs M) (lov : Int32) (hiv : Int32) : rm_thrown (um_setLimits M 1 lov hiv) = lr_setLimits T.2.1 lov hiv ∧ Rel (T.1, (lu_setLimits T.2.1 lov hiv), T.2.2) bs (um_setLimits M 1 lov hiv) := by
  obtain ⟨h_bs, h_a1, h_a2, h_b, h_deadTime, h_load, h_measure, h_before, h_low, h_high, h_setpoint, h_integral, h_guard, h_share, h_mode, h_hand, h_follows, h_hasMaster, h_isStarved, h_held, h_sum, h_lastError, h_lastRate, h_experiment, h_center, h_height, h_band, h_isUp, h_gone, h_risings, h_second, h_greatest, h_least, h_period, h_swing, h_gain, h_past, h_go, h_sched, h_i_lim, h_i_gb, h_i_md, h_i_dt, h_i_me, h_i_st, h_i_up, h_i_gl, h_i_sw, h_i_rl, h_i_m0⟩ := Rel_iff.mp hR
  have hcd : (f_X6_setLimits_j1_1 1 lov hiv) = wr12 (f_X5_setLimits_x lov hiv) := cd_setLimits il_1
  by_cases hc : (f_X5_setLimits_x lov hiv) = 0
  · have hz : ¬ f_X6_can_j1_1 (f_X6_setLimits_j1_1 1 lov hiv) = 0 := can_ok (by rw [hcd]; exact w12_0 hc)
    refine ⟨?_, h_bs, h_a1, h_a2, h_b, h_deadTime, h_load, h_measure, h_before, ?_, ?_, h_setpoint, h_integral, h_guard, h_share, h_mode, h_hand, h_follows, h_hasMaster, h_isStarved, h_held, h_sum, h_lastError, h_lastRate, h_experiment, h_center, h_height, h_band, h_isUp, h_gone, h_risings, h_second, h_greatest, h_least, h_period, h_swing, h_gain, h_past, h_go, h_sched, ?_, h_i_gb, h_i_md, h_i_dt, h_i_me, h_i_st, h_i_up, h_i_gl, h_i_sw, h_i_rl, h_i_m0⟩
    · show (f_X6_setLimits_j1_1 1 lov hiv) = f_L_setLimits_r lov hiv
      rw [hcd]; unfold f_L_setLimits_r; rw [if_pos hc]; exact w12_0 hc
    · show e3 (f_X6_setLimits_j2_1 (ym_m_low M) 1 lov hiv) (yl_klo T.1).toInt64 (f_L_setLimits_klo (yl_klo T.2.1) lov hiv).toInt64 (yl_klo T.2.2).toInt64
      simp only [f_L_setLimits_klo, f_X6_setLimits_j2_1, if_pos hc, if_neg hz]
      exact ⟨((ul_ne _ _ (by decide)).trans h_low.1), (ul_eq _ _ _), ((ul_ne _ _ (by decide)).trans h_low.2.2)⟩
    · show e3 (f_X6_setLimits_j2_2 (ym_m_high M) 1 lov hiv) (yl_khi T.1).toInt64 (f_L_setLimits_khi (yl_khi T.2.1) lov hiv).toInt64 (yl_khi T.2.2).toInt64
      simp only [f_L_setLimits_khi, f_X6_setLimits_j2_2, if_pos hc, if_neg hz]
      exact ⟨((ul_ne _ _ (by decide)).trans h_high.1), (ul_eq _ _ _), ((ul_ne _ _ (by decide)).trans h_high.2.2)⟩
    · show (Ilim (yl_klo T.1) (yl_khi T.1)) ∧ (Ilim (f_L_setLimits_klo (yl_klo T.2.1) lov hiv) (f_L_setLimits_khi (yl_khi T.2.1) lov hiv)) ∧ (Ilim (yl_klo T.2.2) (yl_khi T.2.2))
      simp only [f_L_setLimits_klo, f_L_setLimits_khi, if_pos hc]
      exact ⟨h_i_lim.1, li_ok hc, h_i_lim.2.2⟩
  · have hz : f_X6_can_j1_1 (f_X6_setLimits_j1_1 1 lov hiv) = 0 := can_no (by rw [hcd]; exact w12_n hc)
    refine ⟨?_, h_bs, h_a1, h_a2, h_b, h_deadTime, h_load, h_measure, h_before, ?_, ?_, h_setpoint, h_integral, h_guard, h_share, h_mode, h_hand, h_follows, h_hasMaster, h_isStarved, h_held, h_sum, h_lastError, h_lastRate, h_experiment, h_center, h_height, h_band, h_isUp, h_gone, h_risings, h_second, h_greatest, h_least, h_period, h_swing, h_gain, h_past, h_go, h_sched, ?_, h_i_gb, h_i_md, h_i_dt, h_i_me, h_i_st, h_i_up, h_i_gl, h_i_sw, h_i_rl, h_i_m0⟩
    · show (f_X6_setLimits_j1_1 1 lov hiv) = f_L_setLimits_r lov hiv
      rw [hcd]; unfold f_L_setLimits_r; rw [if_neg hc]
    · show e3 (f_X6_setLimits_j2_1 (ym_m_low M) 1 lov hiv) (yl_klo T.1).toInt64 (f_L_setLimits_klo (yl_klo T.2.1) lov hiv).toInt64 (yl_klo T.2.2).toInt64
      simp only [f_L_setLimits_klo, f_X6_setLimits_j2_1, if_neg hc, if_pos hz]
      exact h_low
    · show e3 (f_X6_setLimits_j2_2 (ym_m_high M) 1 lov hiv) (yl_khi T.1).toInt64 (f_L_setLimits_khi (yl_khi T.2.1) lov hiv).toInt64 (yl_khi T.2.2).toInt64
      simp only [f_L_setLimits_khi, f_X6_setLimits_j2_2, if_neg hc, if_pos hz]
      exact h_high
    · show (Ilim (yl_klo T.1) (yl_khi T.1)) ∧ (Ilim (f_L_setLimits_klo (yl_klo T.2.1) lov hiv) (f_L_setLimits_khi (yl_khi T.2.1) lov hiv)) ∧ (Ilim (yl_klo T.2.2) (yl_khi T.2.2))
      simp only [f_L_setLimits_klo, f_L_setLimits_khi, if_neg hc]
      exact h_i_lim
set_option maxHeartbeats 1000000 in
theorem rel_setLimits_2 (hR : Rel T bs M) (lov : Int32) (hiv : Int32) : rm_thrown (um_setLimits M 2 lov hiv) = lr_setLimits T.2.2 lov hiv ∧ Rel (T.1, T.2.1, (lu_setLimits T.2.2 lov hiv)) bs (um_setLimits M 2 lov hiv) := by
  obtain ⟨h_bs, h_a1, h_a2, h_b, h_deadTime, h_load, h_measure, h_before, h_low, h_high, h_setpoint, h_integral, h_guard, h_share, h_mode, h_hand, h_follows, h_hasMaster, h_isStarved, h_held, h_sum, h_lastError, h_lastRate, h_experiment, h_center, h_height, h_band, h_isUp, h_gone, h_risings, h_second, h_greatest, h_least, h_period, h_swing, h_gain, h_past, h_go, h_sched, h_i_lim, h_i_gb, h_i_md, h_i_dt, h_i_me, h_i_st, h_i_up, h_i_gl, h_i_sw, h_i_rl, h_i_m0⟩ := Rel_iff.mp hR
  have hcd : (f_X6_setLimits_j1_1 2 lov hiv) = wr12 (f_X5_setLimits_x lov hiv) := cd_setLimits il_2
  by_cases hc : (f_X5_setLimits_x lov hiv) = 0
  · have hz : ¬ f_X6_can_j1_1 (f_X6_setLimits_j1_1 2 lov hiv) = 0 := can_ok (by rw [hcd]; exact w12_0 hc)
    refine ⟨?_, h_bs, h_a1, h_a2, h_b, h_deadTime, h_load, h_measure, h_before, ?_, ?_, h_setpoint, h_integral, h_guard, h_share, h_mode, h_hand, h_follows, h_hasMaster, h_isStarved, h_held, h_sum, h_lastError, h_lastRate, h_experiment, h_center, h_height, h_band, h_isUp, h_gone, h_risings, h_second, h_greatest, h_least, h_period, h_swing, h_gain, h_past, h_go, h_sched, ?_, h_i_gb, h_i_md, h_i_dt, h_i_me, h_i_st, h_i_up, h_i_gl, h_i_sw, h_i_rl, h_i_m0⟩
    · show (f_X6_setLimits_j1_1 2 lov hiv) = f_L_setLimits_r lov hiv
      rw [hcd]; unfold f_L_setLimits_r; rw [if_pos hc]; exact w12_0 hc
    · show e3 (f_X6_setLimits_j2_1 (ym_m_low M) 2 lov hiv) (yl_klo T.1).toInt64 (yl_klo T.2.1).toInt64 (f_L_setLimits_klo (yl_klo T.2.2) lov hiv).toInt64
      simp only [f_L_setLimits_klo, f_X6_setLimits_j2_1, if_pos hc, if_neg hz]
      exact ⟨((ul_ne _ _ (by decide)).trans h_low.1), ((ul_ne _ _ (by decide)).trans h_low.2.1), (ul_eq _ _ _)⟩
    · show e3 (f_X6_setLimits_j2_2 (ym_m_high M) 2 lov hiv) (yl_khi T.1).toInt64 (yl_khi T.2.1).toInt64 (f_L_setLimits_khi (yl_khi T.2.2) lov hiv).toInt64
      simp only [f_L_setLimits_khi, f_X6_setLimits_j2_2, if_pos hc, if_neg hz]
      exact ⟨((ul_ne _ _ (by decide)).trans h_high.1), ((ul_ne _ _ (by decide)).trans h_high.2.1), (ul_eq _ _ _)⟩
    · show (Ilim (yl_klo T.1) (yl_khi T.1)) ∧ (Ilim (yl_klo T.2.1) (yl_khi T.2.1)) ∧ (Ilim (f_L_setLimits_klo (yl_klo T.2.2) lov hiv) (f_L_setLimits_khi (yl_khi T.2.2) lov hiv))
      simp only [f_L_setLimits_klo, f_L_setLimits_khi, if_pos hc]
      exact ⟨h_i_lim.1, h_i_lim.2.1, li_ok hc⟩
  · have hz : f_X6_can_j1_1 (f_X6_setLimits_j1_1 2 lov hiv) = 0 := can_no (by rw [hcd]; exact w12_n hc)
    refine ⟨?_, h_bs, h_a1, h_a2, h_b, h_deadTime, h_load, h_measure, h_before, ?_, ?_, h_setpoint, h_integral, h_guard, h_share, h_mode, h_hand, h_follows, h_hasMaster, h_isStarved, h_held, h_sum, h_lastError, h_lastRate, h_experiment, h_center, h_height, h_band, h_isUp, h_gone, h_risings, h_second, h_greatest, h_least, h_period, h_swing, h_gain, h_past, h_go, h_sched, ?_, h_i_gb, h_i_md, h_i_dt, h_i_me, h_i_st, h_i_up, h_i_gl, h_i_sw, h_i_rl, h_i_m0⟩
    · show (f_X6_setLimits_j1_1 2 lov hiv) = f_L_setLimits_r lov hiv
      rw [hcd]; unfold f_L_setLimits_r; rw [if_neg hc]
    · show e3 (f_X6_setLimits_j2_1 (ym_m_low M) 2 lov hiv) (yl_klo T.1).toInt64 (yl_klo T.2.1).toInt64 (f_L_setLimits_klo (yl_klo T.2.2) lov hiv).toInt64
      simp only [f_L_setLimits_klo, f_X6_setLimits_j2_1, if_neg hc, if_pos hz]
      exact h_low
    · show e3 (f_X6_setLimits_j2_2 (ym_m_high M) 2 lov hiv) (yl_khi T.1).toInt64 (yl_khi T.2.1).toInt64 (f_L_setLimits_khi (yl_khi T.2.2) lov hiv).toInt64
      simp only [f_L_setLimits_khi, f_X6_setLimits_j2_2, if_neg hc, if_pos hz]
      exact h_high
    · show (Ilim (yl_klo T.1) (yl_khi T.1)) ∧ (Ilim (yl_klo T.2.1) (yl_khi T.2.1)) ∧ (Ilim (f_L_setLimits_klo (yl_klo T.2.2) lov hiv) (f_L_setLimits_khi (yl_khi T.2.2) lov hiv))
      simp only [f_L_setLimits_klo, f_L_setLimits_khi, if_neg hc]
      exact h_i_lim
theorem rel_setLimits (hR : Rel T bs M) (lp : Int32) (lov : Int32) (hiv : Int32) : rm_thrown (um_setLimits M lp lov hiv) = ofL T lp (fun s => lr_setLimits s lov hiv) 1 ∧ Rel (onL T lp (fun s => lu_setLimits s lov hiv)) bs (um_setLimits M lp lov hiv) := by
  by_cases h0 : lp = 0
  · subst h0
    rw [ofL_0, onL_0]
    exact rel_setLimits_0 hR lov hiv
  by_cases h1 : lp = 1
  · subst h1
    rw [ofL_1, onL_1]
    exact rel_setLimits_1 hR lov hiv
  by_cases h2 : lp = 2
  · subst h2
    rw [ofL_2, onL_2]
    exact rel_setLimits_2 hR lov hiv
  rw [ofL_o T _ _ h0 h1 h2, onL_o T _ h0 h1 h2]
  have hcd : (f_X6_setLimits_j1_1 lp lov hiv) = 1 := by simp only [f_X6_setLimits_j1_1, il_o h0 h1 h2]; rfl
  have hz : f_X6_can_j1_1 (f_X6_setLimits_j1_1 lp lov hiv) = 0 := can_no (by rw [hcd]; decide)
  obtain ⟨h_bs, h_a1, h_a2, h_b, h_deadTime, h_load, h_measure, h_before, h_low, h_high, h_setpoint, h_integral, h_guard, h_share, h_mode, h_hand, h_follows, h_hasMaster, h_isStarved, h_held, h_sum, h_lastError, h_lastRate, h_experiment, h_center, h_height, h_band, h_isUp, h_gone, h_risings, h_second, h_greatest, h_least, h_period, h_swing, h_gain, h_past, h_go, h_sched, h_i_lim, h_i_gb, h_i_md, h_i_dt, h_i_me, h_i_st, h_i_up, h_i_gl, h_i_sw, h_i_rl, h_i_m0⟩ := Rel_iff.mp hR
  refine ⟨hcd, h_bs, h_a1, h_a2, h_b, h_deadTime, h_load, h_measure, h_before, ?_, ?_, h_setpoint, h_integral, h_guard, h_share, h_mode, h_hand, h_follows, h_hasMaster, h_isStarved, h_held, h_sum, h_lastError, h_lastRate, h_experiment, h_center, h_height, h_band, h_isUp, h_gone, h_risings, h_second, h_greatest, h_least, h_period, h_swing, h_gain, h_past, h_go, h_sched, h_i_lim, h_i_gb, h_i_md, h_i_dt, h_i_me, h_i_st, h_i_up, h_i_gl, h_i_sw, h_i_rl, h_i_m0⟩
  · show e3 (f_X6_setLimits_j2_1 (ym_m_low M) lp lov hiv) (yl_klo T.1).toInt64 (yl_klo T.2.1).toInt64 (yl_klo T.2.2).toInt64
    simp only [f_X6_setLimits_j2_1, if_pos hz]
    exact h_low
  · show e3 (f_X6_setLimits_j2_2 (ym_m_high M) lp lov hiv) (yl_khi T.1).toInt64 (yl_khi T.2.1).toInt64 (yl_khi T.2.2).toInt64
    simp only [f_X6_setLimits_j2_2, if_pos hz]
    exact h_high
end RO
