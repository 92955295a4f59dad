set_option maxHeartbeats 1000000 in
theorem turn_H {k : Nat} {n : Int32} {s : LT} {M : MT} {lou0 lw ksp2 : Int64} {lmo2 lma2 : Int32} (hk3 : k < 3) (hn : n = nI k) (hR : R1 k s M) (hlw : (yl_lmo s) = 2 → lw = lou0) (hL0 : (yl_lmo s) = 0) : pr n lw M = yl_lou (tn1 s lou0 lmo2 lma2 ksp2) ∧ R1 k (tn1 s lou0 lmo2 lma2 ksp2) (pq n lw M) := by
  obtain ⟨h_a1, h_a2, h_b, h_deadTime, h_load, h_measure, h_before, h_low, h_high, h_setpoint, h_integral, h_guard, h_share, h_mode, h_hand, h_follows, h_hasMaster, h_isStarved, h_held, h_sum, h_lastError, h_lastRate, h_experiment, h_center, h_height, h_band, h_isUp, h_gone, h_risings, h_second, h_greatest, h_least, h_period, h_swing, h_gkp, h_gki, h_gkd, h_go, h_sched, h_i_lim, h_i_gb, h_i_md, h_i_dt, h_i_me, h_i_st, h_i_up, h_i_gl, h_i_sw, h_i_rl⟩ := R1_iff.mp hR
  have hnn : n.toNatClampNeg = k := by rw [hn]; exact nI_clamp (by omega)
  obtain ⟨i30, i31, i32⟩ := i3n k hk3
  rw [← hn] at i30 i31 i32
  have hM : ym_m_mode M n.toNatClampNeg = (yl_lmo s) := by rw [hnn]; exact h_mode
  have hM0 : ym_m_mode M n.toNatClampNeg = 0 := hM.trans hL0
  have hF : f_X1_isStarvedBy_j2_1 (yl_lmo s) lmo2 lma2 = 0 := by unfold f_X1_isStarvedBy_j2_1 f_X1_isStarvedBy_j1_1; rw [hL0]; rfl
  refine ⟨?_, h_a1, h_a2, h_b, h_deadTime, h_load, h_measure, h_before, h_low, h_high, ?_, ?_, h_guard, h_share, ?_, h_hand, h_follows, h_hasMaster, ?_, ?_, ?_, ?_, ?_, ?_, h_center, h_height, h_band, ?_, ?_, ?_, ?_, ?_, ?_, ?_, ?_, ?_, ?_, ?_, ?_, h_sched, h_i_lim, ?_, ?_, h_i_dt, h_i_me, ?_, ?_, ?_, ?_, ?_⟩
  · show (f_X6_puts_r (ym_m_measure M) (ym_m_before M) (ym_m_gain M) (ym_m_low M) (ym_m_high M) (ym_m_setpoint M) (ym_m_integral M) (ym_m_mode M) (ym_m_hand M) (ym_m_hasMaster M) (ym_m_points M) (ym_m_at M) (ym_m_then M) (ym_m_center M) (ym_m_height M) (ym_m_band M) (ym_m_isUp M) n lw) = (f_X5_takeTurn_1_j2_3 (yl_lmo s) (yl_lha s) lou0 lmo2 lma2 ksp2 (yl_kp s) (yl_ki s) (yl_kd s) (yl_klo s) (yl_khi s) (yl_ksp s) (yl_kig s) (yl_pme s) (yl_pmb s) (yl_rce s) (yl_rhe s) (yl_rba s) (yl_rup s) (yl_sn s) (yl_gm s) (yl_gp s) (yl_gi s) (yl_gd s))
    simp only [f_X6_puts_r, f_X5_takeTurn_1_j2_3, if_pos hF, if_pos hL0, if_pos hM0]
    rw [hnn, h_hand, h_low, h_high, wl_eq h_i_lim]
  · show (f_X6_puts_m_setpoint (ym_m_measure M) (ym_m_setpoint M) (ym_m_mode M) (ym_m_follows M) n lw) k = (f_X5_takeTurn_1_j2_8 (yl_lmo s) (yl_lfo s) lou0 lmo2 lma2 (yl_ksp s) (yl_pme s))
    simp only [f_X5_takeTurn_1_j2_8, f_X6_puts_m_setpoint, if_pos hF, if_pos hL0, if_pos hM0]
    unfold f_X6_puts_j2_1 f_X1_actByHand_j1_1 f_X5_takeTurn_1_j1_1
    rw [hnn, ul_eq, h_follows, h_setpoint, h_measure, if_neg (show ¬ (yl_lmo s) = 2 by rw [hL0]; decide)]
  · show (f_X6_puts_m_integral (ym_m_measure M) (ym_m_before M) (ym_m_gain M) (ym_m_low M) (ym_m_high M) (ym_m_setpoint M) (ym_m_integral M) (ym_m_guard M) (ym_m_share M) (ym_m_mode M) (ym_m_hasMaster M) (ym_m_points M) (ym_m_at M) (ym_m_then M) (ym_m_experiment M) (ym_m_center M) (ym_m_band M) (ym_m_isUp M) (ym_m_gone M) (ym_m_risings M) n lw) k = (f_X5_takeTurn_1_j2_9 (yl_lmo s) lou0 lmo2 lma2 ksp2 (yl_kp s) (yl_ki s) (yl_kd s) (yl_klo s) (yl_khi s) (yl_kgu s) (yl_ksh s) (yl_ksp s) (yl_kig s) (yl_pme s) (yl_pmb s) (yl_rpr s) (yl_rce s) (yl_rba s) (yl_rup s) (yl_rsa s) (yl_rri s) (yl_sn s) (yl_gm s) (yl_gp s) (yl_gi s) (yl_gd s))
    simp only [f_X5_takeTurn_1_j2_9, f_X6_puts_m_integral, if_pos hF, if_pos hL0, if_pos hM0]
    exact h_integral
  · show (f_X6_puts_m_mode (ym_m_measure M) (ym_m_setpoint M) (ym_m_mode M) (ym_m_experiment M) (ym_m_band M) (ym_m_isUp M) (ym_m_gone M) (ym_m_risings M) n) k = (f_X5_takeTurn_1_j2_1 (yl_lmo s) lou0 lmo2 lma2 (yl_ksp s) (yl_pme s) (yl_rpr s) (yl_rba s) (yl_rup s) (yl_rsa s) (yl_rri s))
    simp only [f_X5_takeTurn_1_j2_1, f_X6_puts_m_mode, if_pos hF, if_pos hL0, if_pos hM0]
    exact h_mode
  · show (f_X6_puts_m_isStarved (ym_m_mode M) (ym_m_hasMaster M) (ym_m_isStarved M) n) k = (f_X5_takeTurn_1_j2_2 (yl_lmo s) lmo2 lma2)
    simp only [f_X5_takeTurn_1_j2_2, f_X6_puts_m_isStarved, if_pos hF, if_pos hL0, if_pos hM0]
    rw [hnn, u_eq]
    rfl
  · show (f_X6_puts_m_held (ym_m_measure M) (ym_m_before M) (ym_m_gain M) (ym_m_low M) (ym_m_high M) (ym_m_setpoint M) (ym_m_integral M) (ym_m_mode M) (ym_m_hasMaster M) (ym_m_held M) (ym_m_points M) (ym_m_at M) (ym_m_then M) n lw) k = (f_X5_takeTurn_1_j2_7 (yl_lmo s) lou0 lmo2 lma2 (yl_kp s) (yl_ki s) (yl_kd s) (yl_klo s) (yl_khi s) (yl_khe s) (yl_ksp s) (yl_kig s) (yl_pme s) (yl_pmb s) (yl_sn s) (yl_gm s) (yl_gp s) (yl_gi s) (yl_gd s))
    simp only [f_X5_takeTurn_1_j2_7, f_X6_puts_m_held, if_pos hF, if_pos hL0, if_pos hM0]
    exact h_held
  · show (f_X6_puts_m_sum (ym_m_measure M) (ym_m_before M) (ym_m_gain M) (ym_m_setpoint M) (ym_m_integral M) (ym_m_mode M) (ym_m_hasMaster M) (ym_m_sum M) (ym_m_lastError M) (ym_m_lastRate M) (ym_m_goesOn M) (ym_m_points M) (ym_m_at M) (ym_m_then M) n lw) k = (f_X5_takeTurn_1_j2_10 (yl_lmo s) lou0 lmo2 lma2 (yl_kp s) (yl_ki s) (yl_kd s) (yl_ksp s) (yl_kig s) (yl_ksu s) (yl_kle s) (yl_klr s) (yl_kgo s) (yl_pme s) (yl_pmb s) (yl_sn s) (yl_gm s) (yl_gp s) (yl_gi s) (yl_gd s))
    simp only [f_X5_takeTurn_1_j2_10, f_X6_puts_m_sum, if_pos hF, if_pos hL0, if_pos hM0]
    exact h_sum
  · show (f_X6_puts_m_lastError (ym_m_measure M) (ym_m_setpoint M) (ym_m_mode M) (ym_m_hasMaster M) (ym_m_lastError M) n lw) k = (f_X5_takeTurn_1_j2_11 (yl_lmo s) lou0 lmo2 lma2 (yl_ksp s) (yl_kle s) (yl_pme s))
    simp only [f_X5_takeTurn_1_j2_11, f_X6_puts_m_lastError, if_pos hF, if_pos hL0, if_pos hM0]
    exact h_lastError
  · show (f_X6_puts_m_lastRate (ym_m_measure M) (ym_m_before M) (ym_m_mode M) (ym_m_hasMaster M) (ym_m_lastRate M) n) k = (f_X5_takeTurn_1_j2_12 (yl_lmo s) lmo2 lma2 (yl_klr s) (yl_pme s) (yl_pmb s))
    simp only [f_X5_takeTurn_1_j2_12, f_X6_puts_m_lastRate, if_pos hF, if_pos hL0, if_pos hM0]
    exact h_lastRate
  · show (f_X6_puts_m_experiment (ym_m_measure M) (ym_m_setpoint M) (ym_m_mode M) (ym_m_experiment M) (ym_m_band M) (ym_m_isUp M) (ym_m_gone M) (ym_m_risings M) n) k = (f_X5_takeTurn_1_j2_14 (yl_lmo s) lou0 lmo2 lma2 (yl_ksp s) (yl_pme s) (yl_rpr s) (yl_rba s) (yl_rup s) (yl_rsa s) (yl_rri s))
    simp only [f_X5_takeTurn_1_j2_14, f_X6_puts_m_experiment, if_pos hF, if_pos hL0, if_pos hM0]
    exact h_experiment
  · show (f_X6_puts_m_isUp (ym_m_measure M) (ym_m_setpoint M) (ym_m_mode M) (ym_m_band M) (ym_m_isUp M) n) k = (f_X5_takeTurn_1_j2_17 (yl_lmo s) lou0 lmo2 lma2 (yl_ksp s) (yl_pme s) (yl_rba s) (yl_rup s))
    simp only [f_X5_takeTurn_1_j2_17, f_X6_puts_m_isUp, if_pos hF, if_pos hL0, if_pos hM0]
    exact h_isUp
  · show (f_X6_puts_m_gone (ym_m_mode M) (ym_m_gone M) n) k = (f_X5_takeTurn_1_j2_18 (yl_lmo s) lmo2 lma2 (yl_rsa s))
    simp only [f_X5_takeTurn_1_j2_18, f_X6_puts_m_gone, if_pos hF, if_pos hL0, if_pos hM0]
    exact h_gone
  · show (f_X6_puts_m_risings (ym_m_measure M) (ym_m_setpoint M) (ym_m_mode M) (ym_m_band M) (ym_m_isUp M) (ym_m_risings M) n) k = (f_X5_takeTurn_1_j2_19 (yl_lmo s) lou0 lmo2 lma2 (yl_ksp s) (yl_pme s) (yl_rba s) (yl_rup s) (yl_rri s))
    simp only [f_X5_takeTurn_1_j2_19, f_X6_puts_m_risings, if_pos hF, if_pos hL0, if_pos hM0]
    exact h_risings
  · show (f_X6_puts_m_second (ym_m_measure M) (ym_m_setpoint M) (ym_m_mode M) (ym_m_band M) (ym_m_isUp M) (ym_m_gone M) (ym_m_risings M) (ym_m_second M) n) k = (f_X5_takeTurn_1_j2_20 (yl_lmo s) lou0 lmo2 lma2 (yl_ksp s) (yl_pme s) (yl_rba s) (yl_rup s) (yl_rsa s) (yl_rri s) (yl_rse s))
    simp only [f_X5_takeTurn_1_j2_20, f_X6_puts_m_second, if_pos hF, if_pos hL0, if_pos hM0]
    exact h_second
  · show (f_X6_puts_m_greatest (ym_m_measure M) (ym_m_setpoint M) (ym_m_mode M) (ym_m_band M) (ym_m_isUp M) (ym_m_greatest M) n) k = (f_X5_takeTurn_1_j2_21 (yl_lmo s) lou0 lmo2 lma2 (yl_ksp s) (yl_pme s) (yl_rba s) (yl_rup s) (yl_rgr s))
    simp only [f_X5_takeTurn_1_j2_21, f_X6_puts_m_greatest, if_pos hF, if_pos hL0, if_pos hM0]
    exact h_greatest
  · show (f_X6_puts_m_least (ym_m_measure M) (ym_m_setpoint M) (ym_m_mode M) (ym_m_band M) (ym_m_isUp M) (ym_m_least M) n) k = (f_X5_takeTurn_1_j2_22 (yl_lmo s) lou0 lmo2 lma2 (yl_ksp s) (yl_pme s) (yl_rba s) (yl_rup s) (yl_rle s))
    simp only [f_X5_takeTurn_1_j2_22, f_X6_puts_m_least, if_pos hF, if_pos hL0, if_pos hM0]
    exact h_least
  · show (f_X6_puts_m_period (ym_m_measure M) (ym_m_setpoint M) (ym_m_mode M) (ym_m_band M) (ym_m_isUp M) (ym_m_gone M) (ym_m_risings M) (ym_m_second M) (ym_m_period M) n) k = (f_X5_takeTurn_1_j2_15 (yl_lmo s) lou0 lmo2 lma2 (yl_ksp s) (yl_pme s) (yl_rpe s) (yl_rba s) (yl_rup s) (yl_rsa s) (yl_rri s) (yl_rse s))
    simp only [f_X5_takeTurn_1_j2_15, f_X6_puts_m_period, if_pos hF, if_pos hL0, if_pos hM0]
    exact h_period
  · show (f_X6_puts_m_swing (ym_m_measure M) (ym_m_setpoint M) (ym_m_mode M) (ym_m_band M) (ym_m_isUp M) (ym_m_risings M) (ym_m_greatest M) (ym_m_least M) (ym_m_swing M) n) k = (f_X5_takeTurn_1_j2_16 (yl_lmo s) lou0 lmo2 lma2 (yl_ksp s) (yl_pme s) (yl_rsw s) (yl_rba s) (yl_rup s) (yl_rri s) (yl_rgr s) (yl_rle s))
    simp only [f_X5_takeTurn_1_j2_16, f_X6_puts_m_swing, if_pos hF, if_pos hL0, if_pos hM0]
    exact h_swing
  · show (f_X6_puts_m_gain (ym_m_measure M) (ym_m_gain M) (ym_m_mode M) (ym_m_hasMaster M) (ym_m_points M) (ym_m_at M) (ym_m_then M) n) (3 * k) = (f_X5_takeTurn_1_j2_4 (yl_lmo s) lmo2 lma2 (yl_kp s) (yl_pme s) (yl_sn s) (yl_gm s) (yl_gp s)).toInt64
    simp only [f_X5_takeTurn_1_j2_4, f_X6_puts_m_gain, if_pos hF, if_pos hL0, if_pos hM0]
    exact h_gkp
  · show (f_X6_puts_m_gain (ym_m_measure M) (ym_m_gain M) (ym_m_mode M) (ym_m_hasMaster M) (ym_m_points M) (ym_m_at M) (ym_m_then M) n) (3 * k + 1) = (f_X5_takeTurn_1_j2_5 (yl_lmo s) lmo2 lma2 (yl_ki s) (yl_pme s) (yl_sn s) (yl_gm s) (yl_gi s)).toInt64
    simp only [f_X5_takeTurn_1_j2_5, f_X6_puts_m_gain, if_pos hF, if_pos hL0, if_pos hM0]
    exact h_gki
  · show (f_X6_puts_m_gain (ym_m_measure M) (ym_m_gain M) (ym_m_mode M) (ym_m_hasMaster M) (ym_m_points M) (ym_m_at M) (ym_m_then M) n) (3 * k + 2) = (f_X5_takeTurn_1_j2_6 (yl_lmo s) lmo2 lma2 (yl_kd s) (yl_pme s) (yl_sn s) (yl_gm s) (yl_gd s)).toInt64
    simp only [f_X5_takeTurn_1_j2_6, f_X6_puts_m_gain, if_pos hF, if_pos hL0, if_pos hM0]
    exact h_gkd
  · show Rgo (f_X5_takeTurn_1_j2_1 (yl_lmo s) lou0 lmo2 lma2 (yl_ksp s) (yl_pme s) (yl_rpr s) (yl_rba s) (yl_rup s) (yl_rsa s) (yl_rri s)) (f_X5_takeTurn_1_j2_13 (yl_lmo s) lou0 lmo2 lma2 (yl_ksp s) (yl_kgo s) (yl_pme s) (yl_rpr s) (yl_rba s) (yl_rup s) (yl_rsa s) (yl_rri s)) ((f_X6_puts_m_goesOn (ym_m_measure M) (ym_m_setpoint M) (ym_m_mode M) (ym_m_hasMaster M) (ym_m_goesOn M) (ym_m_experiment M) (ym_m_band M) (ym_m_isUp M) (ym_m_gone M) (ym_m_risings M) n) k)
    simp only [f_X5_takeTurn_1_j2_1, f_X5_takeTurn_1_j2_13, f_X6_puts_m_goesOn, if_pos hF, if_pos hL0, if_pos hM0]
    intro h
    rcases h with h | h <;> exact absurd (hL0.symm.trans h) (by decide)
  · show Gb (f_X5_takeTurn_1_j2_4 (yl_lmo s) lmo2 lma2 (yl_kp s) (yl_pme s) (yl_sn s) (yl_gm s) (yl_gp s)) (f_X5_takeTurn_1_j2_5 (yl_lmo s) lmo2 lma2 (yl_ki s) (yl_pme s) (yl_sn s) (yl_gm s) (yl_gi s)) (f_X5_takeTurn_1_j2_6 (yl_lmo s) lmo2 lma2 (yl_kd s) (yl_pme s) (yl_sn s) (yl_gm s) (yl_gd s))
    simp only [f_X5_takeTurn_1_j2_4, f_X5_takeTurn_1_j2_5, f_X5_takeTurn_1_j2_6, if_pos hF, if_pos hL0, if_pos hM0]
    exact h_i_gb
  · show Imd (f_X5_takeTurn_1_j2_1 (yl_lmo s) lou0 lmo2 lma2 (yl_ksp s) (yl_pme s) (yl_rpr s) (yl_rba s) (yl_rup s) (yl_rsa s) (yl_rri s))
    simp only [f_X5_takeTurn_1_j2_1, if_pos hF, if_pos hL0, if_pos hM0]
    exact h_i_md
  · show Ist (f_X5_takeTurn_1_j2_2 (yl_lmo s) lmo2 lma2)
    simp only [f_X5_takeTurn_1_j2_2, if_pos hF, if_pos hL0, if_pos hM0]
    exact Or.inl rfl
  · show Ist (f_X5_takeTurn_1_j2_17 (yl_lmo s) lou0 lmo2 lma2 (yl_ksp s) (yl_pme s) (yl_rba s) (yl_rup s))
    simp only [f_X5_takeTurn_1_j2_17, if_pos hF, if_pos hL0, if_pos hM0]
    exact h_i_up
  · show Igl (f_X5_takeTurn_1_j2_21 (yl_lmo s) lou0 lmo2 lma2 (yl_ksp s) (yl_pme s) (yl_rba s) (yl_rup s) (yl_rgr s)) (f_X5_takeTurn_1_j2_22 (yl_lmo s) lou0 lmo2 lma2 (yl_ksp s) (yl_pme s) (yl_rba s) (yl_rup s) (yl_rle s))
    simp only [f_X5_takeTurn_1_j2_21, f_X5_takeTurn_1_j2_22, if_pos hF, if_pos hL0, if_pos hM0]
    exact h_i_gl
  · show Isw (f_X5_takeTurn_1_j2_16 (yl_lmo s) lou0 lmo2 lma2 (yl_ksp s) (yl_pme s) (yl_rsw s) (yl_rba s) (yl_rup s) (yl_rri s) (yl_rgr s) (yl_rle s)) (f_X5_takeTurn_1_j2_15 (yl_lmo s) lou0 lmo2 lma2 (yl_ksp s) (yl_pme s) (yl_rpe s) (yl_rba s) (yl_rup s) (yl_rsa s) (yl_rri s) (yl_rse s)) (yl_rhe s)
    simp only [f_X5_takeTurn_1_j2_16, f_X5_takeTurn_1_j2_15, if_pos hF, if_pos hL0, if_pos hM0]
    exact h_i_sw
  · show Irl (f_X5_takeTurn_1_j2_1 (yl_lmo s) lou0 lmo2 lma2 (yl_ksp s) (yl_pme s) (yl_rpr s) (yl_rba s) (yl_rup s) (yl_rsa s) (yl_rri s)) (f_X5_takeTurn_1_j2_14 (yl_lmo s) lou0 lmo2 lma2 (yl_ksp s) (yl_pme s) (yl_rpr s) (yl_rba s) (yl_rup s) (yl_rsa s) (yl_rri s)) (f_X5_takeTurn_1_j2_18 (yl_lmo s) lmo2 lma2 (yl_rsa s)) (f_X5_takeTurn_1_j2_19 (yl_lmo s) lou0 lmo2 lma2 (yl_ksp s) (yl_pme s) (yl_rba s) (yl_rup s) (yl_rri s)) (f_X5_takeTurn_1_j2_20 (yl_lmo s) lou0 lmo2 lma2 (yl_ksp s) (yl_pme s) (yl_rba s) (yl_rup s) (yl_rsa s) (yl_rri s) (yl_rse s))
    simp only [f_X5_takeTurn_1_j2_1, f_X5_takeTurn_1_j2_14, f_X5_takeTurn_1_j2_18, f_X5_takeTurn_1_j2_19, f_X5_takeTurn_1_j2_20, if_pos hF, if_pos hL0, if_pos hM0]
    exact h_i_rl
set_option maxHeartbeats 1000000 in
theorem turn_R {k : Nat} {n : Int32} {s : LT} {M : MT} {lou0 lw ksp2 : Int64} {lmo2 lma2 : Int32} (hk3 : k < 3) (hn : n = nI k) (hR : R1 k s M) (hlw : (yl_lmo s) = 2 → lw = lou0) (hL3 : (yl_lmo s) = 3) : pr n lw M = yl_lou (tn1 s lou0 lmo2 lma2 ksp2) ∧ R1 k (tn1 s lou0 lmo2 lma2 ksp2) (pq n lw M) := by
  obtain ⟨h_a1, h_a2, h_b, h_deadTime, h_load, h_measure, h_before, h_low, h_high, h_setpoint, h_integral, h_guard, h_share, h_mode, h_hand, h_follows, h_hasMaster, h_isStarved, h_held, h_sum, h_lastError, h_lastRate, h_experiment, h_center, h_height, h_band, h_isUp, h_gone, h_risings, h_second, h_greatest, h_least, h_period, h_swing, h_gkp, h_gki, h_gkd, h_go, h_sched, h_i_lim, h_i_gb, h_i_md, h_i_dt, h_i_me, h_i_st, h_i_up, h_i_gl, h_i_sw, h_i_rl⟩ := R1_iff.mp hR
  have hnn : n.toNatClampNeg = k := by rw [hn]; exact nI_clamp (by omega)
  obtain ⟨i30, i31, i32⟩ := i3n k hk3
  rw [← hn] at i30 i31 i32
  have hM : ym_m_mode M n.toNatClampNeg = (yl_lmo s) := by rw [hnn]; exact h_mode
  have z_a1 : ym_m_a1 M n.toNatClampNeg = (yl_pa1 s).toInt64 := by rw [hnn]; exact h_a1
  have z_a2 : ym_m_a2 M n.toNatClampNeg = (yl_pa2 s).toInt64 := by rw [hnn]; exact h_a2
  have z_b : ym_m_b M n.toNatClampNeg = (yl_pb s).toInt64 := by rw [hnn]; exact h_b
  have z_deadTime : ym_m_deadTime M n.toNatClampNeg = (yl_pdt s) := by rw [hnn]; exact h_deadTime
  have z_load : ym_m_load M n.toNatClampNeg = (yl_pld s) := by rw [hnn]; exact h_load
  have z_measure : ym_m_measure M n.toNatClampNeg = (yl_pme s) := by rw [hnn]; exact h_measure
  have z_before : ym_m_before M n.toNatClampNeg = (yl_pmb s) := by rw [hnn]; exact h_before
  have z_low : ym_m_low M n.toNatClampNeg = (yl_klo s).toInt64 := by rw [hnn]; exact h_low
  have z_high : ym_m_high M n.toNatClampNeg = (yl_khi s).toInt64 := by rw [hnn]; exact h_high
  have z_setpoint : ym_m_setpoint M n.toNatClampNeg = (yl_ksp s) := by rw [hnn]; exact h_setpoint
  have z_integral : ym_m_integral M n.toNatClampNeg = (yl_kig s) := by rw [hnn]; exact h_integral
  have z_guard : ym_m_guard M n.toNatClampNeg = (yl_kgu s) := by rw [hnn]; exact h_guard
  have z_share : ym_m_share M n.toNatClampNeg = (yl_ksh s) := by rw [hnn]; exact h_share
  have z_mode : ym_m_mode M n.toNatClampNeg = (yl_lmo s) := by rw [hnn]; exact h_mode
  have z_hand : ym_m_hand M n.toNatClampNeg = (yl_lha s) := by rw [hnn]; exact h_hand
  have z_follows : ym_m_follows M n.toNatClampNeg = (yl_lfo s) := by rw [hnn]; exact h_follows
  have z_hasMaster : ym_m_hasMaster M n.toNatClampNeg = (yl_lma s) := by rw [hnn]; exact h_hasMaster
  have z_isStarved : ym_m_isStarved M n.toNatClampNeg = (yl_lst s) := by rw [hnn]; exact h_isStarved
  have z_held : ym_m_held M n.toNatClampNeg = (yl_khe s) := by rw [hnn]; exact h_held
  have z_sum : ym_m_sum M n.toNatClampNeg = (yl_ksu s) := by rw [hnn]; exact h_sum
  have z_lastError : ym_m_lastError M n.toNatClampNeg = (yl_kle s) := by rw [hnn]; exact h_lastError
  have z_lastRate : ym_m_lastRate M n.toNatClampNeg = (yl_klr s) := by rw [hnn]; exact h_lastRate
  have z_experiment : ym_m_experiment M n.toNatClampNeg = (yl_rpr s) := by rw [hnn]; exact h_experiment
  have z_center : ym_m_center M n.toNatClampNeg = (yl_rce s) := by rw [hnn]; exact h_center
  have z_height : ym_m_height M n.toNatClampNeg = (yl_rhe s) := by rw [hnn]; exact h_height
  have z_band : ym_m_band M n.toNatClampNeg = (yl_rba s) := by rw [hnn]; exact h_band
  have z_isUp : ym_m_isUp M n.toNatClampNeg = (yl_rup s) := by rw [hnn]; exact h_isUp
  have z_gone : ym_m_gone M n.toNatClampNeg = (yl_rsa s) := by rw [hnn]; exact h_gone
  have z_risings : ym_m_risings M n.toNatClampNeg = (yl_rri s) := by rw [hnn]; exact h_risings
  have z_second : ym_m_second M n.toNatClampNeg = (yl_rse s) := by rw [hnn]; exact h_second
  have z_greatest : ym_m_greatest M n.toNatClampNeg = (yl_rgr s) := by rw [hnn]; exact h_greatest
  have z_least : ym_m_least M n.toNatClampNeg = (yl_rle s) := by rw [hnn]; exact h_least
  have z_period : ym_m_period M n.toNatClampNeg = (yl_rpe s) := by rw [hnn]; exact h_period
  have z_swing : ym_m_swing M n.toNatClampNeg = (yl_rsw s) := by rw [hnn]; exact h_swing
  have z_gkp : ym_m_gain M ((3 : Int32) * n).toNatClampNeg = (yl_kp s).toInt64 := by rw [i30]; exact h_gkp
  have z_gki : ym_m_gain M (((3 : Int32) * n) + (1 : Int32)).toNatClampNeg = (yl_ki s).toInt64 := by rw [i31]; exact h_gki
  have z_gkd : ym_m_gain M (((3 : Int32) * n) + (2 : Int32)).toNatClampNeg = (yl_kd s).toInt64 := by rw [i32]; exact h_gkd
  have hL0 : ¬ (yl_lmo s) = 0 := by rw [hL3]; decide
  have hM0 : ¬ ym_m_mode M n.toNatClampNeg = 0 := by rw [hM]; exact hL0
  have hM3 : ym_m_mode M n.toNatClampNeg = 3 := hM.trans hL3
  have hF : f_X1_isStarvedBy_j2_1 (yl_lmo s) lmo2 lma2 = 0 := by unfold f_X1_isStarvedBy_j2_1 f_X1_isStarvedBy_j1_1; rw [hL3]; rfl
  have hsp : f_X5_takeTurn_1_j1_1 (yl_lmo s) lou0 (yl_ksp s) = (yl_ksp s) := by unfold f_X5_takeTurn_1_j1_1; rw [hL3]; exact if_neg (by decide)
  obtain ⟨r1, r2, r3, r4, r5, r6⟩ := h_i_rl hL3
  have RA := rl_all (n := n) (me := ym_m_measure M) (sp := ym_m_setpoint M) (ba := ym_m_band M) (up := ym_m_isUp M) (ex := ym_m_experiment M) (go := ym_m_gone M) (ri := ym_m_risings M) (se := ym_m_second M) (gr := ym_m_greatest M) (le := ym_m_least M) (pe := ym_m_period M) (sw := ym_m_swing M) z_setpoint z_measure z_band z_isUp h_i_up z_experiment z_gone z_risings z_second z_greatest z_least z_period z_swing r1 r2 r3 r4 r5
  obtain ⟨a1, a2, a3, a4, a5, a6, a7, a8, a9⟩ := RA
  obtain ⟨u1, u2⟩ := up_eq (n := n) (me := ym_m_measure M) (sp := ym_m_setpoint M) (ba := ym_m_band M) (up := ym_m_isUp M) (ksp := (yl_ksp s)) (pme := (yl_pme s)) (rba := (yl_rba s)) (rup := (yl_rup s)) z_setpoint z_measure z_band z_isUp h_i_up
  have RI := rl_inv (ksp := (yl_ksp s)) (rba := (yl_rba s)) h_i_up h_i_gl h_i_sw h_i_me (by rw [← hL3]; exact h_i_rl)
  rw [← hL3] at RI
  obtain ⟨v1, v2, v3, v4⟩ := RI
  have E : f_X1_actAsRelay_rpr (yl_ksp s) (yl_pme s) (yl_rpr s) (yl_rba s) (yl_rup s) (yl_rsa s) (yl_rri s) = f_X3_sample_j3_1 (yl_rpr s) (yl_rba s) (yl_rup s) (yl_rsa s) (yl_rri s) (f_X0_error_r (yl_ksp s) (yl_pme s)) := rfl
  refine ⟨?_, h_a1, h_a2, h_b, h_deadTime, h_load, h_measure, h_before, h_low, h_high, ?_, ?_, h_guard, h_share, ?_, h_hand, h_follows, h_hasMaster, ?_, ?_, ?_, ?_, ?_, ?_, h_center, h_height, h_band, ?_, ?_, ?_, ?_, ?_, ?_, ?_, ?_, ?_, ?_, ?_, ?_, h_sched, h_i_lim, ?_, ?_, h_i_dt, h_i_me, ?_, ?_, ?_, ?_, ?_⟩
  · show (f_X6_puts_r (ym_m_measure M) (ym_m_before M) (ym_m_gain M) (ym_m_low M) (ym_m_high M) (ym_m_setpoint M) (ym_m_integral M) (ym_m_mode M) (ym_m_hand M) (ym_m_hasMaster M) (ym_m_points M) (ym_m_at M) (ym_m_then M) (ym_m_center M) (ym_m_height M) (ym_m_band M) (ym_m_isUp M) n lw) = (f_X5_takeTurn_1_j2_3 (yl_lmo s) (yl_lha s) lou0 lmo2 lma2 ksp2 (yl_kp s) (yl_ki s) (yl_kd s) (yl_klo s) (yl_khi s) (yl_ksp s) (yl_kig s) (yl_pme s) (yl_pmb s) (yl_rce s) (yl_rhe s) (yl_rba s) (yl_rup s) (yl_sn s) (yl_gm s) (yl_gp s) (yl_gi s) (yl_gd s))
    simp only [f_X6_puts_r, f_X5_takeTurn_1_j2_3, if_pos hF, if_neg hL0, if_pos hL3, if_neg hM0, if_pos hM3, hsp]
    unfold f_X6_relays_r f_X6_relays_j9_1 f_X1_actAsRelay_lou f_X3_wanted_j1_1
    rw [u_eq, u1, nar01 u2, hnn, h_low, h_high, h_center, h_height, wl_eq h_i_lim]
    refine congrArg (fun z => f_X6_within_j1_1 z _ _) ?_
    by_cases c : f_X3_sample_j1_1 (yl_rba s) (yl_rup s) (f_X0_error_r (yl_ksp s) (yl_pme s)) = 0
    · rw [if_pos c, if_pos c, neg64 h_i_sw.2.2.2.1, Int64.sub_eq_add_neg]
    · rw [if_neg c, if_neg c]
  · show (f_X6_puts_m_setpoint (ym_m_measure M) (ym_m_setpoint M) (ym_m_mode M) (ym_m_follows M) n lw) k = (f_X5_takeTurn_1_j2_8 (yl_lmo s) (yl_lfo s) lou0 lmo2 lma2 (yl_ksp s) (yl_pme s))
    simp only [f_X5_takeTurn_1_j2_8, f_X6_puts_m_setpoint, if_pos hF, if_neg hL0, if_pos hL3, if_neg hM0, if_pos hM3, hsp]
    exact h_setpoint
  · show (f_X6_puts_m_integral (ym_m_measure M) (ym_m_before M) (ym_m_gain M) (ym_m_low M) (ym_m_high M) (ym_m_setpoint M) (ym_m_integral M) (ym_m_guard M) (ym_m_share M) (ym_m_mode M) (ym_m_hasMaster M) (ym_m_points M) (ym_m_at M) (ym_m_then M) (ym_m_experiment M) (ym_m_center M) (ym_m_band M) (ym_m_isUp M) (ym_m_gone M) (ym_m_risings M) n lw) k = (f_X5_takeTurn_1_j2_9 (yl_lmo s) lou0 lmo2 lma2 ksp2 (yl_kp s) (yl_ki s) (yl_kd s) (yl_klo s) (yl_khi s) (yl_kgu s) (yl_ksh s) (yl_ksp s) (yl_kig s) (yl_pme s) (yl_pmb s) (yl_rpr s) (yl_rce s) (yl_rba s) (yl_rup s) (yl_rsa s) (yl_rri s) (yl_sn s) (yl_gm s) (yl_gp s) (yl_gi s) (yl_gd s))
    simp only [f_X5_takeTurn_1_j2_9, f_X6_puts_m_integral, if_pos hF, if_neg hL0, if_pos hL3, if_neg hM0, if_pos hM3, hsp]
    unfold f_X6_relays_j8_1 f_X1_actAsRelay_j1_2
    rw [a1, E]
    by_cases c : f_X3_sample_j3_1 (yl_rpr s) (yl_rba s) (yl_rup s) (yl_rsa s) (yl_rri s) (f_X0_error_r (yl_ksp s) (yl_pme s)) = 1
    · rw [if_pos c, if_pos c]; exact h_integral
    · rw [if_neg c, if_neg c, stl_eq z_gkp z_gkd z_setpoint z_measure z_before z_center, hnn, ul_eq]
  · show (f_X6_puts_m_mode (ym_m_measure M) (ym_m_setpoint M) (ym_m_mode M) (ym_m_experiment M) (ym_m_band M) (ym_m_isUp M) (ym_m_gone M) (ym_m_risings M) n) k = (f_X5_takeTurn_1_j2_1 (yl_lmo s) lou0 lmo2 lma2 (yl_ksp s) (yl_pme s) (yl_rpr s) (yl_rba s) (yl_rup s) (yl_rsa s) (yl_rri s))
    simp only [f_X5_takeTurn_1_j2_1, f_X6_puts_m_mode, if_pos hF, if_neg hL0, if_pos hL3, if_neg hM0, if_pos hM3, hsp]
    unfold f_X6_relays_j8_2 f_X1_actAsRelay_j1_1
    rw [a1, E]
    by_cases c : f_X3_sample_j3_1 (yl_rpr s) (yl_rba s) (yl_rup s) (yl_rsa s) (yl_rri s) (f_X0_error_r (yl_ksp s) (yl_pme s)) = 1
    · rw [if_pos c, if_pos c]; exact h_mode
    · rw [if_neg c, if_neg c, hnn, u_eq]
  · show (f_X6_puts_m_isStarved (ym_m_mode M) (ym_m_hasMaster M) (ym_m_isStarved M) n) k = (f_X5_takeTurn_1_j2_2 (yl_lmo s) lmo2 lma2)
    simp only [f_X5_takeTurn_1_j2_2, f_X6_puts_m_isStarved, if_pos hF, if_neg hL0, if_pos hL3, if_neg hM0, if_pos hM3, hsp]
    rw [hnn, u_eq]
    rfl
  · show (f_X6_puts_m_held (ym_m_measure M) (ym_m_before M) (ym_m_gain M) (ym_m_low M) (ym_m_high M) (ym_m_setpoint M) (ym_m_integral M) (ym_m_mode M) (ym_m_hasMaster M) (ym_m_held M) (ym_m_points M) (ym_m_at M) (ym_m_then M) n lw) k = (f_X5_takeTurn_1_j2_7 (yl_lmo s) lou0 lmo2 lma2 (yl_kp s) (yl_ki s) (yl_kd s) (yl_klo s) (yl_khi s) (yl_khe s) (yl_ksp s) (yl_kig s) (yl_pme s) (yl_pmb s) (yl_sn s) (yl_gm s) (yl_gp s) (yl_gi s) (yl_gd s))
    simp only [f_X5_takeTurn_1_j2_7, f_X6_puts_m_held, if_pos hF, if_neg hL0, if_pos hL3, if_neg hM0, if_pos hM3, hsp]
    exact h_held
  · show (f_X6_puts_m_sum (ym_m_measure M) (ym_m_before M) (ym_m_gain M) (ym_m_setpoint M) (ym_m_integral M) (ym_m_mode M) (ym_m_hasMaster M) (ym_m_sum M) (ym_m_lastError M) (ym_m_lastRate M) (ym_m_goesOn M) (ym_m_points M) (ym_m_at M) (ym_m_then M) n lw) k = (f_X5_takeTurn_1_j2_10 (yl_lmo s) lou0 lmo2 lma2 (yl_kp s) (yl_ki s) (yl_kd s) (yl_ksp s) (yl_kig s) (yl_ksu s) (yl_kle s) (yl_klr s) (yl_kgo s) (yl_pme s) (yl_pmb s) (yl_sn s) (yl_gm s) (yl_gp s) (yl_gi s) (yl_gd s))
    simp only [f_X5_takeTurn_1_j2_10, f_X6_puts_m_sum, if_pos hF, if_neg hL0, if_pos hL3, if_neg hM0, if_pos hM3, hsp]
    exact h_sum
  · show (f_X6_puts_m_lastError (ym_m_measure M) (ym_m_setpoint M) (ym_m_mode M) (ym_m_hasMaster M) (ym_m_lastError M) n lw) k = (f_X5_takeTurn_1_j2_11 (yl_lmo s) lou0 lmo2 lma2 (yl_ksp s) (yl_kle s) (yl_pme s))
    simp only [f_X5_takeTurn_1_j2_11, f_X6_puts_m_lastError, if_pos hF, if_neg hL0, if_pos hL3, if_neg hM0, if_pos hM3, hsp]
    exact h_lastError
  · show (f_X6_puts_m_lastRate (ym_m_measure M) (ym_m_before M) (ym_m_mode M) (ym_m_hasMaster M) (ym_m_lastRate M) n) k = (f_X5_takeTurn_1_j2_12 (yl_lmo s) lmo2 lma2 (yl_klr s) (yl_pme s) (yl_pmb s))
    simp only [f_X5_takeTurn_1_j2_12, f_X6_puts_m_lastRate, if_pos hF, if_neg hL0, if_pos hL3, if_neg hM0, if_pos hM3, hsp]
    exact h_lastRate
  · show (f_X6_puts_m_experiment (ym_m_measure M) (ym_m_setpoint M) (ym_m_mode M) (ym_m_experiment M) (ym_m_band M) (ym_m_isUp M) (ym_m_gone M) (ym_m_risings M) n) k = (f_X5_takeTurn_1_j2_14 (yl_lmo s) lou0 lmo2 lma2 (yl_ksp s) (yl_pme s) (yl_rpr s) (yl_rba s) (yl_rup s) (yl_rsa s) (yl_rri s))
    simp only [f_X5_takeTurn_1_j2_14, f_X6_puts_m_experiment, if_pos hF, if_neg hL0, if_pos hL3, if_neg hM0, if_pos hM3, hsp]
    rw [← hnn]; exact a1
  · show (f_X6_puts_m_isUp (ym_m_measure M) (ym_m_setpoint M) (ym_m_mode M) (ym_m_band M) (ym_m_isUp M) n) k = (f_X5_takeTurn_1_j2_17 (yl_lmo s) lou0 lmo2 lma2 (yl_ksp s) (yl_pme s) (yl_rba s) (yl_rup s))
    simp only [f_X5_takeTurn_1_j2_17, f_X6_puts_m_isUp, if_pos hF, if_neg hL0, if_pos hL3, if_neg hM0, if_pos hM3, hsp]
    rw [← hnn]; exact a2
  · show (f_X6_puts_m_gone (ym_m_mode M) (ym_m_gone M) n) k = (f_X5_takeTurn_1_j2_18 (yl_lmo s) lmo2 lma2 (yl_rsa s))
    simp only [f_X5_takeTurn_1_j2_18, f_X6_puts_m_gone, if_pos hF, if_neg hL0, if_pos hL3, if_neg hM0, if_pos hM3, hsp]
    rw [← hnn]; exact a3
  · show (f_X6_puts_m_risings (ym_m_measure M) (ym_m_setpoint M) (ym_m_mode M) (ym_m_band M) (ym_m_isUp M) (ym_m_risings M) n) k = (f_X5_takeTurn_1_j2_19 (yl_lmo s) lou0 lmo2 lma2 (yl_ksp s) (yl_pme s) (yl_rba s) (yl_rup s) (yl_rri s))
    simp only [f_X5_takeTurn_1_j2_19, f_X6_puts_m_risings, if_pos hF, if_neg hL0, if_pos hL3, if_neg hM0, if_pos hM3, hsp]
    rw [← hnn]; exact a4
  · show (f_X6_puts_m_second (ym_m_measure M) (ym_m_setpoint M) (ym_m_mode M) (ym_m_band M) (ym_m_isUp M) (ym_m_gone M) (ym_m_risings M) (ym_m_second M) n) k = (f_X5_takeTurn_1_j2_20 (yl_lmo s) lou0 lmo2 lma2 (yl_ksp s) (yl_pme s) (yl_rba s) (yl_rup s) (yl_rsa s) (yl_rri s) (yl_rse s))
    simp only [f_X5_takeTurn_1_j2_20, f_X6_puts_m_second, if_pos hF, if_neg hL0, if_pos hL3, if_neg hM0, if_pos hM3, hsp]
    rw [← hnn]; exact a5
  · show (f_X6_puts_m_greatest (ym_m_measure M) (ym_m_setpoint M) (ym_m_mode M) (ym_m_band M) (ym_m_isUp M) (ym_m_greatest M) n) k = (f_X5_takeTurn_1_j2_21 (yl_lmo s) lou0 lmo2 lma2 (yl_ksp s) (yl_pme s) (yl_rba s) (yl_rup s) (yl_rgr s))
    simp only [f_X5_takeTurn_1_j2_21, f_X6_puts_m_greatest, if_pos hF, if_neg hL0, if_pos hL3, if_neg hM0, if_pos hM3, hsp]
    rw [← hnn]; exact a6
  · show (f_X6_puts_m_least (ym_m_measure M) (ym_m_setpoint M) (ym_m_mode M) (ym_m_band M) (ym_m_isUp M) (ym_m_least M) n) k = (f_X5_takeTurn_1_j2_22 (yl_lmo s) lou0 lmo2 lma2 (yl_ksp s) (yl_pme s) (yl_rba s) (yl_rup s) (yl_rle s))
    simp only [f_X5_takeTurn_1_j2_22, f_X6_puts_m_least, if_pos hF, if_neg hL0, if_pos hL3, if_neg hM0, if_pos hM3, hsp]
    rw [← hnn]; exact a7
  · show (f_X6_puts_m_period (ym_m_measure M) (ym_m_setpoint M) (ym_m_mode M) (ym_m_band M) (ym_m_isUp M) (ym_m_gone M) (ym_m_risings M) (ym_m_second M) (ym_m_period M) n) k = (f_X5_takeTurn_1_j2_15 (yl_lmo s) lou0 lmo2 lma2 (yl_ksp s) (yl_pme s) (yl_rpe s) (yl_rba s) (yl_rup s) (yl_rsa s) (yl_rri s) (yl_rse s))
    simp only [f_X5_takeTurn_1_j2_15, f_X6_puts_m_period, if_pos hF, if_neg hL0, if_pos hL3, if_neg hM0, if_pos hM3, hsp]
    rw [← hnn]; exact a8
  · show (f_X6_puts_m_swing (ym_m_measure M) (ym_m_setpoint M) (ym_m_mode M) (ym_m_band M) (ym_m_isUp M) (ym_m_risings M) (ym_m_greatest M) (ym_m_least M) (ym_m_swing M) n) k = (f_X5_takeTurn_1_j2_16 (yl_lmo s) lou0 lmo2 lma2 (yl_ksp s) (yl_pme s) (yl_rsw s) (yl_rba s) (yl_rup s) (yl_rri s) (yl_rgr s) (yl_rle s))
    simp only [f_X5_takeTurn_1_j2_16, f_X6_puts_m_swing, if_pos hF, if_neg hL0, if_pos hL3, if_neg hM0, if_pos hM3, hsp]
    rw [← hnn]; exact a9
  · show (f_X6_puts_m_gain (ym_m_measure M) (ym_m_gain M) (ym_m_mode M) (ym_m_hasMaster M) (ym_m_points M) (ym_m_at M) (ym_m_then M) n) (3 * k) = (f_X5_takeTurn_1_j2_4 (yl_lmo s) lmo2 lma2 (yl_kp s) (yl_pme s) (yl_sn s) (yl_gm s) (yl_gp s)).toInt64
    simp only [f_X5_takeTurn_1_j2_4, f_X6_puts_m_gain, if_pos hF, if_neg hL0, if_pos hL3, if_neg hM0, if_pos hM3, hsp]
    exact h_gkp
  · show (f_X6_puts_m_gain (ym_m_measure M) (ym_m_gain M) (ym_m_mode M) (ym_m_hasMaster M) (ym_m_points M) (ym_m_at M) (ym_m_then M) n) (3 * k + 1) = (f_X5_takeTurn_1_j2_5 (yl_lmo s) lmo2 lma2 (yl_ki s) (yl_pme s) (yl_sn s) (yl_gm s) (yl_gi s)).toInt64
    simp only [f_X5_takeTurn_1_j2_5, f_X6_puts_m_gain, if_pos hF, if_neg hL0, if_pos hL3, if_neg hM0, if_pos hM3, hsp]
    exact h_gki
  · show (f_X6_puts_m_gain (ym_m_measure M) (ym_m_gain M) (ym_m_mode M) (ym_m_hasMaster M) (ym_m_points M) (ym_m_at M) (ym_m_then M) n) (3 * k + 2) = (f_X5_takeTurn_1_j2_6 (yl_lmo s) lmo2 lma2 (yl_kd s) (yl_pme s) (yl_sn s) (yl_gm s) (yl_gd s)).toInt64
    simp only [f_X5_takeTurn_1_j2_6, f_X6_puts_m_gain, if_pos hF, if_neg hL0, if_pos hL3, if_neg hM0, if_pos hM3, hsp]
    exact h_gkd
  · show Rgo (f_X5_takeTurn_1_j2_1 (yl_lmo s) lou0 lmo2 lma2 (yl_ksp s) (yl_pme s) (yl_rpr s) (yl_rba s) (yl_rup s) (yl_rsa s) (yl_rri s)) (f_X5_takeTurn_1_j2_13 (yl_lmo s) lou0 lmo2 lma2 (yl_ksp s) (yl_kgo s) (yl_pme s) (yl_rpr s) (yl_rba s) (yl_rup s) (yl_rsa s) (yl_rri s)) ((f_X6_puts_m_goesOn (ym_m_measure M) (ym_m_setpoint M) (ym_m_mode M) (ym_m_hasMaster M) (ym_m_goesOn M) (ym_m_experiment M) (ym_m_band M) (ym_m_isUp M) (ym_m_gone M) (ym_m_risings M) n) k)
    simp only [f_X5_takeTurn_1_j2_1, f_X5_takeTurn_1_j2_13, f_X6_puts_m_goesOn, if_pos hF, if_neg hL0, if_pos hL3, if_neg hM0, if_pos hM3, hsp]
    intro h
    unfold f_X6_relays_j8_3 f_X1_actAsRelay_j1_3
    rw [a1, E]
    unfold f_X1_actAsRelay_j1_1 at h
    by_cases c : f_X3_sample_j3_1 (yl_rpr s) (yl_rba s) (yl_rup s) (yl_rsa s) (yl_rri s) (f_X0_error_r (yl_ksp s) (yl_pme s)) = 1
    · rw [if_pos c, hL3] at h; rcases h with h | h <;> exact absurd h (by decide)
    · rw [if_neg c, if_neg c]; unfold f_X6_settle_m_goesOn; rw [hnn, u_eq]; rfl
  · show Gb (f_X5_takeTurn_1_j2_4 (yl_lmo s) lmo2 lma2 (yl_kp s) (yl_pme s) (yl_sn s) (yl_gm s) (yl_gp s)) (f_X5_takeTurn_1_j2_5 (yl_lmo s) lmo2 lma2 (yl_ki s) (yl_pme s) (yl_sn s) (yl_gm s) (yl_gi s)) (f_X5_takeTurn_1_j2_6 (yl_lmo s) lmo2 lma2 (yl_kd s) (yl_pme s) (yl_sn s) (yl_gm s) (yl_gd s))
    simp only [f_X5_takeTurn_1_j2_4, f_X5_takeTurn_1_j2_5, f_X5_takeTurn_1_j2_6, if_pos hF, if_neg hL0, if_pos hL3, if_neg hM0, if_pos hM3, hsp]
    exact h_i_gb
  · show Imd (f_X5_takeTurn_1_j2_1 (yl_lmo s) lou0 lmo2 lma2 (yl_ksp s) (yl_pme s) (yl_rpr s) (yl_rba s) (yl_rup s) (yl_rsa s) (yl_rri s))
    simp only [f_X5_takeTurn_1_j2_1, if_pos hF, if_neg hL0, if_pos hL3, if_neg hM0, if_pos hM3, hsp]
    rcases v4 with q | q
    · exact Or.inr (Or.inr (Or.inr (q.trans hL3)))
    · exact Or.inr (Or.inl q)
  · show Ist (f_X5_takeTurn_1_j2_2 (yl_lmo s) lmo2 lma2)
    simp only [f_X5_takeTurn_1_j2_2, if_pos hF, if_neg hL0, if_pos hL3, if_neg hM0, if_pos hM3, hsp]
    exact Or.inl rfl
  · show Ist (f_X5_takeTurn_1_j2_17 (yl_lmo s) lou0 lmo2 lma2 (yl_ksp s) (yl_pme s) (yl_rba s) (yl_rup s))
    simp only [f_X5_takeTurn_1_j2_17, if_pos hF, if_neg hL0, if_pos hL3, if_neg hM0, if_pos hM3, hsp]
    exact u2
  · show Igl (f_X5_takeTurn_1_j2_21 (yl_lmo s) lou0 lmo2 lma2 (yl_ksp s) (yl_pme s) (yl_rba s) (yl_rup s) (yl_rgr s)) (f_X5_takeTurn_1_j2_22 (yl_lmo s) lou0 lmo2 lma2 (yl_ksp s) (yl_pme s) (yl_rba s) (yl_rup s) (yl_rle s))
    simp only [f_X5_takeTurn_1_j2_21, f_X5_takeTurn_1_j2_22, if_pos hF, if_neg hL0, if_pos hL3, if_neg hM0, if_pos hM3, hsp]
    exact v1
  · show Isw (f_X5_takeTurn_1_j2_16 (yl_lmo s) lou0 lmo2 lma2 (yl_ksp s) (yl_pme s) (yl_rsw s) (yl_rba s) (yl_rup s) (yl_rri s) (yl_rgr s) (yl_rle s)) (f_X5_takeTurn_1_j2_15 (yl_lmo s) lou0 lmo2 lma2 (yl_ksp s) (yl_pme s) (yl_rpe s) (yl_rba s) (yl_rup s) (yl_rsa s) (yl_rri s) (yl_rse s)) (yl_rhe s)
    simp only [f_X5_takeTurn_1_j2_16, f_X5_takeTurn_1_j2_15, if_pos hF, if_neg hL0, if_pos hL3, if_neg hM0, if_pos hM3, hsp]
    exact v2
  · show Irl (f_X5_takeTurn_1_j2_1 (yl_lmo s) lou0 lmo2 lma2 (yl_ksp s) (yl_pme s) (yl_rpr s) (yl_rba s) (yl_rup s) (yl_rsa s) (yl_rri s)) (f_X5_takeTurn_1_j2_14 (yl_lmo s) lou0 lmo2 lma2 (yl_ksp s) (yl_pme s) (yl_rpr s) (yl_rba s) (yl_rup s) (yl_rsa s) (yl_rri s)) (f_X5_takeTurn_1_j2_18 (yl_lmo s) lmo2 lma2 (yl_rsa s)) (f_X5_takeTurn_1_j2_19 (yl_lmo s) lou0 lmo2 lma2 (yl_ksp s) (yl_pme s) (yl_rba s) (yl_rup s) (yl_rri s)) (f_X5_takeTurn_1_j2_20 (yl_lmo s) lou0 lmo2 lma2 (yl_ksp s) (yl_pme s) (yl_rba s) (yl_rup s) (yl_rsa s) (yl_rri s) (yl_rse s))
    simp only [f_X5_takeTurn_1_j2_1, f_X5_takeTurn_1_j2_14, f_X5_takeTurn_1_j2_18, f_X5_takeTurn_1_j2_19, f_X5_takeTurn_1_j2_20, if_pos hF, if_neg hL0, if_pos hL3, if_neg hM0, if_pos hM3, hsp]
    exact v3
set_option maxHeartbeats 1000000 in
theorem turn_A {k : Nat} {n : Int32} {s : LT} {M : MT} {lou0 lw ksp2 : Int64} {lmo2 lma2 : Int32} (hk3 : k < 3) (hn : n = nI k) (hR : R1 k s M) (hlw : (yl_lmo s) = 2 → lw = lou0) (hL0 : ¬ (yl_lmo s) = 0) (hL3 : ¬ (yl_lmo s) = 3) (hF : f_X1_isStarvedBy_j2_1 (yl_lmo s) lmo2 lma2 = 0) (hS : f_X6_starves_j1_1 (ym_m_mode M) (ym_m_hasMaster M) n = 0) : pr n lw M = yl_lou (tn1 s lou0 lmo2 lma2 ksp2) ∧ R1 k (tn1 s lou0 lmo2 lma2 ksp2) (pq n lw M) := by
  obtain ⟨h_a1, h_a2, h_b, h_deadTime, h_load, h_measure, h_before, h_low, h_high, h_setpoint, h_integral, h_guard, h_share, h_mode, h_hand, h_follows, h_hasMaster, h_isStarved, h_held, h_sum, h_lastError, h_lastRate, h_experiment, h_center, h_height, h_band, h_isUp, h_gone, h_risings, h_second, h_greatest, h_least, h_period, h_swing, h_gkp, h_gki, h_gkd, h_go, h_sched, h_i_lim, h_i_gb, h_i_md, h_i_dt, h_i_me, h_i_st, h_i_up, h_i_gl, h_i_sw, h_i_rl⟩ := R1_iff.mp hR
  have hnn : n.toNatClampNeg = k := by rw [hn]; exact nI_clamp (by omega)
  obtain ⟨i30, i31, i32⟩ := i3n k hk3
  rw [← hn] at i30 i31 i32
  have hM : ym_m_mode M n.toNatClampNeg = (yl_lmo s) := by rw [hnn]; exact h_mode
  have z_a1 : ym_m_a1 M n.toNatClampNeg = (yl_pa1 s).toInt64 := by rw [hnn]; exact h_a1
  have z_a2 : ym_m_a2 M n.toNatClampNeg = (yl_pa2 s).toInt64 := by rw [hnn]; exact h_a2
  have z_b : ym_m_b M n.toNatClampNeg = (yl_pb s).toInt64 := by rw [hnn]; exact h_b
  have z_deadTime : ym_m_deadTime M n.toNatClampNeg = (yl_pdt s) := by rw [hnn]; exact h_deadTime
  have z_load : ym_m_load M n.toNatClampNeg = (yl_pld s) := by rw [hnn]; exact h_load
  have z_measure : ym_m_measure M n.toNatClampNeg = (yl_pme s) := by rw [hnn]; exact h_measure
  have z_before : ym_m_before M n.toNatClampNeg = (yl_pmb s) := by rw [hnn]; exact h_before
  have z_low : ym_m_low M n.toNatClampNeg = (yl_klo s).toInt64 := by rw [hnn]; exact h_low
  have z_high : ym_m_high M n.toNatClampNeg = (yl_khi s).toInt64 := by rw [hnn]; exact h_high
  have z_setpoint : ym_m_setpoint M n.toNatClampNeg = (yl_ksp s) := by rw [hnn]; exact h_setpoint
  have z_integral : ym_m_integral M n.toNatClampNeg = (yl_kig s) := by rw [hnn]; exact h_integral
  have z_guard : ym_m_guard M n.toNatClampNeg = (yl_kgu s) := by rw [hnn]; exact h_guard
  have z_share : ym_m_share M n.toNatClampNeg = (yl_ksh s) := by rw [hnn]; exact h_share
  have z_mode : ym_m_mode M n.toNatClampNeg = (yl_lmo s) := by rw [hnn]; exact h_mode
  have z_hand : ym_m_hand M n.toNatClampNeg = (yl_lha s) := by rw [hnn]; exact h_hand
  have z_follows : ym_m_follows M n.toNatClampNeg = (yl_lfo s) := by rw [hnn]; exact h_follows
  have z_hasMaster : ym_m_hasMaster M n.toNatClampNeg = (yl_lma s) := by rw [hnn]; exact h_hasMaster
  have z_isStarved : ym_m_isStarved M n.toNatClampNeg = (yl_lst s) := by rw [hnn]; exact h_isStarved
  have z_held : ym_m_held M n.toNatClampNeg = (yl_khe s) := by rw [hnn]; exact h_held
  have z_sum : ym_m_sum M n.toNatClampNeg = (yl_ksu s) := by rw [hnn]; exact h_sum
  have z_lastError : ym_m_lastError M n.toNatClampNeg = (yl_kle s) := by rw [hnn]; exact h_lastError
  have z_lastRate : ym_m_lastRate M n.toNatClampNeg = (yl_klr s) := by rw [hnn]; exact h_lastRate
  have z_experiment : ym_m_experiment M n.toNatClampNeg = (yl_rpr s) := by rw [hnn]; exact h_experiment
  have z_center : ym_m_center M n.toNatClampNeg = (yl_rce s) := by rw [hnn]; exact h_center
  have z_height : ym_m_height M n.toNatClampNeg = (yl_rhe s) := by rw [hnn]; exact h_height
  have z_band : ym_m_band M n.toNatClampNeg = (yl_rba s) := by rw [hnn]; exact h_band
  have z_isUp : ym_m_isUp M n.toNatClampNeg = (yl_rup s) := by rw [hnn]; exact h_isUp
  have z_gone : ym_m_gone M n.toNatClampNeg = (yl_rsa s) := by rw [hnn]; exact h_gone
  have z_risings : ym_m_risings M n.toNatClampNeg = (yl_rri s) := by rw [hnn]; exact h_risings
  have z_second : ym_m_second M n.toNatClampNeg = (yl_rse s) := by rw [hnn]; exact h_second
  have z_greatest : ym_m_greatest M n.toNatClampNeg = (yl_rgr s) := by rw [hnn]; exact h_greatest
  have z_least : ym_m_least M n.toNatClampNeg = (yl_rle s) := by rw [hnn]; exact h_least
  have z_period : ym_m_period M n.toNatClampNeg = (yl_rpe s) := by rw [hnn]; exact h_period
  have z_swing : ym_m_swing M n.toNatClampNeg = (yl_rsw s) := by rw [hnn]; exact h_swing
  have z_gkp : ym_m_gain M ((3 : Int32) * n).toNatClampNeg = (yl_kp s).toInt64 := by rw [i30]; exact h_gkp
  have z_gki : ym_m_gain M (((3 : Int32) * n) + (1 : Int32)).toNatClampNeg = (yl_ki s).toInt64 := by rw [i31]; exact h_gki
  have z_gkd : ym_m_gain M (((3 : Int32) * n) + (2 : Int32)).toNatClampNeg = (yl_kd s).toInt64 := by rw [i32]; exact h_gkd
  have hM0 : ¬ ym_m_mode M n.toNatClampNeg = 0 := by rw [hM]; exact hL0
  have hM3 : ¬ ym_m_mode M n.toNatClampNeg = 3 := by rw [hM]; exact hL3
  obtain ⟨sp, hsp⟩ : ∃ z, z = f_X5_takeTurn_1_j1_1 (yl_lmo s) lou0 (yl_ksp s) := ⟨_, rfl⟩
  have hspm : f_X6_puts_j1_1 (ym_m_setpoint M) (ym_m_mode M) n lw = sp := by
    rw [hsp]; unfold f_X6_puts_j1_1 f_X5_takeTurn_1_j1_1; rw [hM, hnn, h_setpoint]
    by_cases c : (yl_lmo s) = 2
    · rw [if_pos c, if_pos c]; exact hlw c
    · rw [if_neg c, if_neg c]
  have SA := sg_all (n := n) hk3 hn (me := ym_m_measure M) (be := ym_m_before M) (ga := ym_m_gain M) (sp := vp_updL (ym_m_setpoint M) n.toNatClampNeg sp) (ig := ym_m_integral M) (pts := ym_m_points M) (ksp := sp) (sn := (yl_sn s)) (gm := (yl_gm s)) (gp := (yl_gp s)) (gi := (yl_gi s)) (gd := (yl_gd s)) (by rw [hnn]; exact h_sched) z_gkp z_gki z_gkd h_i_gb z_measure z_before (ul_eq _ _ _) z_integral
  obtain ⟨⟨g0, g1, g2⟩, gb, gi, -⟩ := SA
  have CA := ct_all (n := n) (low := ym_m_low M) (high := ym_m_high M) (guard := ym_m_guard M) (share := ym_m_share M) (su := ym_m_sum M) (le := ym_m_lastError M) (lr := ym_m_lastRate M) (go := ym_m_goesOn M) (held := ym_m_held M) (kgo := (yl_kgo s)) g0 g1 g2 gi (ul_eq _ _ _) z_measure z_before z_low z_high z_guard z_share h_i_lim z_sum z_lastError z_lastRate (by rw [hnn]; exact h_go (by rcases h_i_md with q | q | q | q; exact absurd q hL0; exact Or.inl q; exact Or.inr q; exact absurd q hL3)) z_held
  obtain ⟨c1, c2, c3, c4⟩ := CA
  refine ⟨?_, h_a1, h_a2, h_b, h_deadTime, h_load, h_measure, h_before, h_low, h_high, ?_, ?_, h_guard, h_share, ?_, h_hand, h_follows, h_hasMaster, ?_, ?_, ?_, ?_, ?_, ?_, h_center, h_height, h_band, ?_, ?_, ?_, ?_, ?_, ?_, ?_, ?_, ?_, ?_, ?_, ?_, h_sched, h_i_lim, ?_, ?_, h_i_dt, h_i_me, ?_, ?_, ?_, ?_, ?_⟩
  · show (f_X6_puts_r (ym_m_measure M) (ym_m_before M) (ym_m_gain M) (ym_m_low M) (ym_m_high M) (ym_m_setpoint M) (ym_m_integral M) (ym_m_mode M) (ym_m_hand M) (ym_m_hasMaster M) (ym_m_points M) (ym_m_at M) (ym_m_then M) (ym_m_center M) (ym_m_height M) (ym_m_band M) (ym_m_isUp M) n lw) = (f_X5_takeTurn_1_j2_3 (yl_lmo s) (yl_lha s) lou0 lmo2 lma2 ksp2 (yl_kp s) (yl_ki s) (yl_kd s) (yl_klo s) (yl_khi s) (yl_ksp s) (yl_kig s) (yl_pme s) (yl_pmb s) (yl_rce s) (yl_rhe s) (yl_rba s) (yl_rup s) (yl_sn s) (yl_gm s) (yl_gp s) (yl_gi s) (yl_gd s))
    simp only [f_X6_puts_r, f_X5_takeTurn_1_j2_3, if_neg hL0, if_neg hL3, if_neg hM0, if_neg hM3, if_pos hF, if_pos hS, hspm, ← hsp]
    exact c1
  · show (f_X6_puts_m_setpoint (ym_m_measure M) (ym_m_setpoint M) (ym_m_mode M) (ym_m_follows M) n lw) k = (f_X5_takeTurn_1_j2_8 (yl_lmo s) (yl_lfo s) lou0 lmo2 lma2 (yl_ksp s) (yl_pme s))
    simp only [f_X5_takeTurn_1_j2_8, f_X6_puts_m_setpoint, if_neg hL0, if_neg hL3, if_neg hM0, if_neg hM3, if_pos hF, if_pos hS, hspm, ← hsp]
    rw [hnn, ul_eq]
  · show (f_X6_puts_m_integral (ym_m_measure M) (ym_m_before M) (ym_m_gain M) (ym_m_low M) (ym_m_high M) (ym_m_setpoint M) (ym_m_integral M) (ym_m_guard M) (ym_m_share M) (ym_m_mode M) (ym_m_hasMaster M) (ym_m_points M) (ym_m_at M) (ym_m_then M) (ym_m_experiment M) (ym_m_center M) (ym_m_band M) (ym_m_isUp M) (ym_m_gone M) (ym_m_risings M) n lw) k = (f_X5_takeTurn_1_j2_9 (yl_lmo s) lou0 lmo2 lma2 ksp2 (yl_kp s) (yl_ki s) (yl_kd s) (yl_klo s) (yl_khi s) (yl_kgu s) (yl_ksh s) (yl_ksp s) (yl_kig s) (yl_pme s) (yl_pmb s) (yl_rpr s) (yl_rce s) (yl_rba s) (yl_rup s) (yl_rsa s) (yl_rri s) (yl_sn s) (yl_gm s) (yl_gp s) (yl_gi s) (yl_gd s))
    simp only [f_X5_takeTurn_1_j2_9, f_X6_puts_m_integral, if_neg hL0, if_neg hL3, if_neg hM0, if_neg hM3, if_pos hF, if_pos hS, hspm, ← hsp]
    rw [← hnn]; exact c2
  · show (f_X6_puts_m_mode (ym_m_measure M) (ym_m_setpoint M) (ym_m_mode M) (ym_m_experiment M) (ym_m_band M) (ym_m_isUp M) (ym_m_gone M) (ym_m_risings M) n) k = (f_X5_takeTurn_1_j2_1 (yl_lmo s) lou0 lmo2 lma2 (yl_ksp s) (yl_pme s) (yl_rpr s) (yl_rba s) (yl_rup s) (yl_rsa s) (yl_rri s))
    simp only [f_X5_takeTurn_1_j2_1, f_X6_puts_m_mode, if_neg hL0, if_neg hL3, if_neg hM0, if_neg hM3, if_pos hF, if_pos hS, hspm, ← hsp]
    exact h_mode
  · show (f_X6_puts_m_isStarved (ym_m_mode M) (ym_m_hasMaster M) (ym_m_isStarved M) n) k = (f_X5_takeTurn_1_j2_2 (yl_lmo s) lmo2 lma2)
    simp only [f_X5_takeTurn_1_j2_2, f_X6_puts_m_isStarved, if_neg hL0, if_neg hL3, if_neg hM0, if_neg hM3, if_pos hF, if_pos hS, hspm, ← hsp]
    rw [hnn, u_eq]
    rfl
  · show (f_X6_puts_m_held (ym_m_measure M) (ym_m_before M) (ym_m_gain M) (ym_m_low M) (ym_m_high M) (ym_m_setpoint M) (ym_m_integral M) (ym_m_mode M) (ym_m_hasMaster M) (ym_m_held M) (ym_m_points M) (ym_m_at M) (ym_m_then M) n lw) k = (f_X5_takeTurn_1_j2_7 (yl_lmo s) lou0 lmo2 lma2 (yl_kp s) (yl_ki s) (yl_kd s) (yl_klo s) (yl_khi s) (yl_khe s) (yl_ksp s) (yl_kig s) (yl_pme s) (yl_pmb s) (yl_sn s) (yl_gm s) (yl_gp s) (yl_gi s) (yl_gd s))
    simp only [f_X5_takeTurn_1_j2_7, f_X6_puts_m_held, if_neg hL0, if_neg hL3, if_neg hM0, if_neg hM3, if_pos hF, if_pos hS, hspm, ← hsp]
    unfold f_X6_controls_m_held
    rw [← hnn, u_eq]; exact c4
  · show (f_X6_puts_m_sum (ym_m_measure M) (ym_m_before M) (ym_m_gain M) (ym_m_setpoint M) (ym_m_integral M) (ym_m_mode M) (ym_m_hasMaster M) (ym_m_sum M) (ym_m_lastError M) (ym_m_lastRate M) (ym_m_goesOn M) (ym_m_points M) (ym_m_at M) (ym_m_then M) n lw) k = (f_X5_takeTurn_1_j2_10 (yl_lmo s) lou0 lmo2 lma2 (yl_kp s) (yl_ki s) (yl_kd s) (yl_ksp s) (yl_kig s) (yl_ksu s) (yl_kle s) (yl_klr s) (yl_kgo s) (yl_pme s) (yl_pmb s) (yl_sn s) (yl_gm s) (yl_gp s) (yl_gi s) (yl_gd s))
    simp only [f_X5_takeTurn_1_j2_10, f_X6_puts_m_sum, if_neg hL0, if_neg hL3, if_neg hM0, if_neg hM3, if_pos hF, if_pos hS, hspm, ← hsp]
    unfold f_X6_controls_m_sum
    rw [← hnn, ul_eq]; exact c3
  · show (f_X6_puts_m_lastError (ym_m_measure M) (ym_m_setpoint M) (ym_m_mode M) (ym_m_hasMaster M) (ym_m_lastError M) n lw) k = (f_X5_takeTurn_1_j2_11 (yl_lmo s) lou0 lmo2 lma2 (yl_ksp s) (yl_kle s) (yl_pme s))
    simp only [f_X5_takeTurn_1_j2_11, f_X6_puts_m_lastError, if_neg hL0, if_neg hL3, if_neg hM0, if_neg hM3, if_pos hF, if_pos hS, hspm, ← hsp]
    unfold f_X6_controls_m_lastError f_X6_error_r f_X0_error_r
    rw [← hnn, ul_eq, ul_eq, hnn, h_measure]
  · show (f_X6_puts_m_lastRate (ym_m_measure M) (ym_m_before M) (ym_m_mode M) (ym_m_hasMaster M) (ym_m_lastRate M) n) k = (f_X5_takeTurn_1_j2_12 (yl_lmo s) lmo2 lma2 (yl_klr s) (yl_pme s) (yl_pmb s))
    simp only [f_X5_takeTurn_1_j2_12, f_X6_puts_m_lastRate, if_neg hL0, if_neg hL3, if_neg hM0, if_neg hM3, if_pos hF, if_pos hS, hspm, ← hsp]
    unfold f_X6_controls_m_lastRate f_X6_rate_r f_X0_rate_r
    rw [← hnn, ul_eq, hnn, h_measure, h_before]
  · show (f_X6_puts_m_experiment (ym_m_measure M) (ym_m_setpoint M) (ym_m_mode M) (ym_m_experiment M) (ym_m_band M) (ym_m_isUp M) (ym_m_gone M) (ym_m_risings M) n) k = (f_X5_takeTurn_1_j2_14 (yl_lmo s) lou0 lmo2 lma2 (yl_ksp s) (yl_pme s) (yl_rpr s) (yl_rba s) (yl_rup s) (yl_rsa s) (yl_rri s))
    simp only [f_X5_takeTurn_1_j2_14, f_X6_puts_m_experiment, if_neg hL0, if_neg hL3, if_neg hM0, if_neg hM3, if_pos hF, if_pos hS, hspm, ← hsp]
    exact h_experiment
  · show (f_X6_puts_m_isUp (ym_m_measure M) (ym_m_setpoint M) (ym_m_mode M) (ym_m_band M) (ym_m_isUp M) n) k = (f_X5_takeTurn_1_j2_17 (yl_lmo s) lou0 lmo2 lma2 (yl_ksp s) (yl_pme s) (yl_rba s) (yl_rup s))
    simp only [f_X5_takeTurn_1_j2_17, f_X6_puts_m_isUp, if_neg hL0, if_neg hL3, if_neg hM0, if_neg hM3, if_pos hF, if_pos hS, hspm, ← hsp]
    exact h_isUp
  · show (f_X6_puts_m_gone (ym_m_mode M) (ym_m_gone M) n) k = (f_X5_takeTurn_1_j2_18 (yl_lmo s) lmo2 lma2 (yl_rsa s))
    simp only [f_X5_takeTurn_1_j2_18, f_X6_puts_m_gone, if_neg hL0, if_neg hL3, if_neg hM0, if_neg hM3, if_pos hF, if_pos hS, hspm, ← hsp]
    exact h_gone
  · show (f_X6_puts_m_risings (ym_m_measure M) (ym_m_setpoint M) (ym_m_mode M) (ym_m_band M) (ym_m_isUp M) (ym_m_risings M) n) k = (f_X5_takeTurn_1_j2_19 (yl_lmo s) lou0 lmo2 lma2 (yl_ksp s) (yl_pme s) (yl_rba s) (yl_rup s) (yl_rri s))
    simp only [f_X5_takeTurn_1_j2_19, f_X6_puts_m_risings, if_neg hL0, if_neg hL3, if_neg hM0, if_neg hM3, if_pos hF, if_pos hS, hspm, ← hsp]
    exact h_risings
  · show (f_X6_puts_m_second (ym_m_measure M) (ym_m_setpoint M) (ym_m_mode M) (ym_m_band M) (ym_m_isUp M) (ym_m_gone M) (ym_m_risings M) (ym_m_second M) n) k = (f_X5_takeTurn_1_j2_20 (yl_lmo s) lou0 lmo2 lma2 (yl_ksp s) (yl_pme s) (yl_rba s) (yl_rup s) (yl_rsa s) (yl_rri s) (yl_rse s))
    simp only [f_X5_takeTurn_1_j2_20, f_X6_puts_m_second, if_neg hL0, if_neg hL3, if_neg hM0, if_neg hM3, if_pos hF, if_pos hS, hspm, ← hsp]
    exact h_second
  · show (f_X6_puts_m_greatest (ym_m_measure M) (ym_m_setpoint M) (ym_m_mode M) (ym_m_band M) (ym_m_isUp M) (ym_m_greatest M) n) k = (f_X5_takeTurn_1_j2_21 (yl_lmo s) lou0 lmo2 lma2 (yl_ksp s) (yl_pme s) (yl_rba s) (yl_rup s) (yl_rgr s))
    simp only [f_X5_takeTurn_1_j2_21, f_X6_puts_m_greatest, if_neg hL0, if_neg hL3, if_neg hM0, if_neg hM3, if_pos hF, if_pos hS, hspm, ← hsp]
    exact h_greatest
  · show (f_X6_puts_m_least (ym_m_measure M) (ym_m_setpoint M) (ym_m_mode M) (ym_m_band M) (ym_m_isUp M) (ym_m_least M) n) k = (f_X5_takeTurn_1_j2_22 (yl_lmo s) lou0 lmo2 lma2 (yl_ksp s) (yl_pme s) (yl_rba s) (yl_rup s) (yl_rle s))
    simp only [f_X5_takeTurn_1_j2_22, f_X6_puts_m_least, if_neg hL0, if_neg hL3, if_neg hM0, if_neg hM3, if_pos hF, if_pos hS, hspm, ← hsp]
    exact h_least
  · show (f_X6_puts_m_period (ym_m_measure M) (ym_m_setpoint M) (ym_m_mode M) (ym_m_band M) (ym_m_isUp M) (ym_m_gone M) (ym_m_risings M) (ym_m_second M) (ym_m_period M) n) k = (f_X5_takeTurn_1_j2_15 (yl_lmo s) lou0 lmo2 lma2 (yl_ksp s) (yl_pme s) (yl_rpe s) (yl_rba s) (yl_rup s) (yl_rsa s) (yl_rri s) (yl_rse s))
    simp only [f_X5_takeTurn_1_j2_15, f_X6_puts_m_period, if_neg hL0, if_neg hL3, if_neg hM0, if_neg hM3, if_pos hF, if_pos hS, hspm, ← hsp]
    exact h_period
  · show (f_X6_puts_m_swing (ym_m_measure M) (ym_m_setpoint M) (ym_m_mode M) (ym_m_band M) (ym_m_isUp M) (ym_m_risings M) (ym_m_greatest M) (ym_m_least M) (ym_m_swing M) n) k = (f_X5_takeTurn_1_j2_16 (yl_lmo s) lou0 lmo2 lma2 (yl_ksp s) (yl_pme s) (yl_rsw s) (yl_rba s) (yl_rup s) (yl_rri s) (yl_rgr s) (yl_rle s))
    simp only [f_X5_takeTurn_1_j2_16, f_X6_puts_m_swing, if_neg hL0, if_neg hL3, if_neg hM0, if_neg hM3, if_pos hF, if_pos hS, hspm, ← hsp]
    exact h_swing
  · show (f_X6_puts_m_gain (ym_m_measure M) (ym_m_gain M) (ym_m_mode M) (ym_m_hasMaster M) (ym_m_points M) (ym_m_at M) (ym_m_then M) n) (3 * k) = (f_X5_takeTurn_1_j2_4 (yl_lmo s) lmo2 lma2 (yl_kp s) (yl_pme s) (yl_sn s) (yl_gm s) (yl_gp s)).toInt64
    simp only [f_X5_takeTurn_1_j2_4, f_X6_puts_m_gain, if_neg hL0, if_neg hL3, if_neg hM0, if_neg hM3, if_pos hF, if_pos hS, hspm, ← hsp]
    rw [← i30]; exact g0
  · show (f_X6_puts_m_gain (ym_m_measure M) (ym_m_gain M) (ym_m_mode M) (ym_m_hasMaster M) (ym_m_points M) (ym_m_at M) (ym_m_then M) n) (3 * k + 1) = (f_X5_takeTurn_1_j2_5 (yl_lmo s) lmo2 lma2 (yl_ki s) (yl_pme s) (yl_sn s) (yl_gm s) (yl_gi s)).toInt64
    simp only [f_X5_takeTurn_1_j2_5, f_X6_puts_m_gain, if_neg hL0, if_neg hL3, if_neg hM0, if_neg hM3, if_pos hF, if_pos hS, hspm, ← hsp]
    rw [← i31]; exact g1
  · show (f_X6_puts_m_gain (ym_m_measure M) (ym_m_gain M) (ym_m_mode M) (ym_m_hasMaster M) (ym_m_points M) (ym_m_at M) (ym_m_then M) n) (3 * k + 2) = (f_X5_takeTurn_1_j2_6 (yl_lmo s) lmo2 lma2 (yl_kd s) (yl_pme s) (yl_sn s) (yl_gm s) (yl_gd s)).toInt64
    simp only [f_X5_takeTurn_1_j2_6, f_X6_puts_m_gain, if_neg hL0, if_neg hL3, if_neg hM0, if_neg hM3, if_pos hF, if_pos hS, hspm, ← hsp]
    rw [← i32]; exact g2
  · show Rgo (f_X5_takeTurn_1_j2_1 (yl_lmo s) lou0 lmo2 lma2 (yl_ksp s) (yl_pme s) (yl_rpr s) (yl_rba s) (yl_rup s) (yl_rsa s) (yl_rri s)) (f_X5_takeTurn_1_j2_13 (yl_lmo s) lou0 lmo2 lma2 (yl_ksp s) (yl_kgo s) (yl_pme s) (yl_rpr s) (yl_rba s) (yl_rup s) (yl_rsa s) (yl_rri s)) ((f_X6_puts_m_goesOn (ym_m_measure M) (ym_m_setpoint M) (ym_m_mode M) (ym_m_hasMaster M) (ym_m_goesOn M) (ym_m_experiment M) (ym_m_band M) (ym_m_isUp M) (ym_m_gone M) (ym_m_risings M) n) k)
    simp only [f_X5_takeTurn_1_j2_1, f_X5_takeTurn_1_j2_13, f_X6_puts_m_goesOn, if_neg hL0, if_neg hL3, if_neg hM0, if_neg hM3, if_pos hF, if_pos hS, hspm, ← hsp]
    intro _
    unfold f_X6_controls_m_goesOn
    rw [hnn, u_eq]
    rfl
  · show Gb (f_X5_takeTurn_1_j2_4 (yl_lmo s) lmo2 lma2 (yl_kp s) (yl_pme s) (yl_sn s) (yl_gm s) (yl_gp s)) (f_X5_takeTurn_1_j2_5 (yl_lmo s) lmo2 lma2 (yl_ki s) (yl_pme s) (yl_sn s) (yl_gm s) (yl_gi s)) (f_X5_takeTurn_1_j2_6 (yl_lmo s) lmo2 lma2 (yl_kd s) (yl_pme s) (yl_sn s) (yl_gm s) (yl_gd s))
    simp only [f_X5_takeTurn_1_j2_4, f_X5_takeTurn_1_j2_5, f_X5_takeTurn_1_j2_6, if_neg hL0, if_neg hL3, if_neg hM0, if_neg hM3, if_pos hF, if_pos hS, hspm, ← hsp]
    exact gb
  · show Imd (f_X5_takeTurn_1_j2_1 (yl_lmo s) lou0 lmo2 lma2 (yl_ksp s) (yl_pme s) (yl_rpr s) (yl_rba s) (yl_rup s) (yl_rsa s) (yl_rri s))
    simp only [f_X5_takeTurn_1_j2_1, if_neg hL0, if_neg hL3, if_neg hM0, if_neg hM3, if_pos hF, if_pos hS, hspm, ← hsp]
    exact h_i_md
  · show Ist (f_X5_takeTurn_1_j2_2 (yl_lmo s) lmo2 lma2)
    simp only [f_X5_takeTurn_1_j2_2, if_neg hL0, if_neg hL3, if_neg hM0, if_neg hM3, if_pos hF, if_pos hS, hspm, ← hsp]
    exact Or.inl rfl
  · show Ist (f_X5_takeTurn_1_j2_17 (yl_lmo s) lou0 lmo2 lma2 (yl_ksp s) (yl_pme s) (yl_rba s) (yl_rup s))
    simp only [f_X5_takeTurn_1_j2_17, if_neg hL0, if_neg hL3, if_neg hM0, if_neg hM3, if_pos hF, if_pos hS, hspm, ← hsp]
    exact h_i_up
  · show Igl (f_X5_takeTurn_1_j2_21 (yl_lmo s) lou0 lmo2 lma2 (yl_ksp s) (yl_pme s) (yl_rba s) (yl_rup s) (yl_rgr s)) (f_X5_takeTurn_1_j2_22 (yl_lmo s) lou0 lmo2 lma2 (yl_ksp s) (yl_pme s) (yl_rba s) (yl_rup s) (yl_rle s))
    simp only [f_X5_takeTurn_1_j2_21, f_X5_takeTurn_1_j2_22, if_neg hL0, if_neg hL3, if_neg hM0, if_neg hM3, if_pos hF, if_pos hS, hspm, ← hsp]
    exact h_i_gl
  · show Isw (f_X5_takeTurn_1_j2_16 (yl_lmo s) lou0 lmo2 lma2 (yl_ksp s) (yl_pme s) (yl_rsw s) (yl_rba s) (yl_rup s) (yl_rri s) (yl_rgr s) (yl_rle s)) (f_X5_takeTurn_1_j2_15 (yl_lmo s) lou0 lmo2 lma2 (yl_ksp s) (yl_pme s) (yl_rpe s) (yl_rba s) (yl_rup s) (yl_rsa s) (yl_rri s) (yl_rse s)) (yl_rhe s)
    simp only [f_X5_takeTurn_1_j2_16, f_X5_takeTurn_1_j2_15, if_neg hL0, if_neg hL3, if_neg hM0, if_neg hM3, if_pos hF, if_pos hS, hspm, ← hsp]
    exact h_i_sw
  · show Irl (f_X5_takeTurn_1_j2_1 (yl_lmo s) lou0 lmo2 lma2 (yl_ksp s) (yl_pme s) (yl_rpr s) (yl_rba s) (yl_rup s) (yl_rsa s) (yl_rri s)) (f_X5_takeTurn_1_j2_14 (yl_lmo s) lou0 lmo2 lma2 (yl_ksp s) (yl_pme s) (yl_rpr s) (yl_rba s) (yl_rup s) (yl_rsa s) (yl_rri s)) (f_X5_takeTurn_1_j2_18 (yl_lmo s) lmo2 lma2 (yl_rsa s)) (f_X5_takeTurn_1_j2_19 (yl_lmo s) lou0 lmo2 lma2 (yl_ksp s) (yl_pme s) (yl_rba s) (yl_rup s) (yl_rri s)) (f_X5_takeTurn_1_j2_20 (yl_lmo s) lou0 lmo2 lma2 (yl_ksp s) (yl_pme s) (yl_rba s) (yl_rup s) (yl_rsa s) (yl_rri s) (yl_rse s))
    simp only [f_X5_takeTurn_1_j2_1, f_X5_takeTurn_1_j2_14, f_X5_takeTurn_1_j2_18, f_X5_takeTurn_1_j2_19, f_X5_takeTurn_1_j2_20, if_neg hL0, if_neg hL3, if_neg hM0, if_neg hM3, if_pos hF, if_pos hS, hspm, ← hsp]
    exact h_i_rl
set_option maxHeartbeats 1000000 in
theorem turn_S {k : Nat} {n : Int32} {s : LT} {M : MT} {lou0 lw ksp2 : Int64} {lmo2 lma2 : Int32} (hk3 : k < 3) (hn : n = nI k) (hR : R1 k s M) (hlw : (yl_lmo s) = 2 → lw = lou0) (hL0 : ¬ (yl_lmo s) = 0) (hL3 : ¬ (yl_lmo s) = 3) (hF : ¬ f_X1_isStarvedBy_j2_1 (yl_lmo s) lmo2 lma2 = 0) (hS : ¬ f_X6_starves_j1_1 (ym_m_mode M) (ym_m_hasMaster M) n = 0) (hsp2 : ym_m_setpoint M (n + (1 : Int32)).toNatClampNeg = ksp2 ∧ ¬ (n + (1 : Int32)).toNatClampNeg = n.toNatClampNeg) : pr n lw M = yl_lou (tn1 s lou0 lmo2 lma2 ksp2) ∧ R1 k (tn1 s lou0 lmo2 lma2 ksp2) (pq n lw M) := by
  obtain ⟨h_a1, h_a2, h_b, h_deadTime, h_load, h_measure, h_before, h_low, h_high, h_setpoint, h_integral, h_guard, h_share, h_mode, h_hand, h_follows, h_hasMaster, h_isStarved, h_held, h_sum, h_lastError, h_lastRate, h_experiment, h_center, h_height, h_band, h_isUp, h_gone, h_risings, h_second, h_greatest, h_least, h_period, h_swing, h_gkp, h_gki, h_gkd, h_go, h_sched, h_i_lim, h_i_gb, h_i_md, h_i_dt, h_i_me, h_i_st, h_i_up, h_i_gl, h_i_sw, h_i_rl⟩ := R1_iff.mp hR
  have hnn : n.toNatClampNeg = k := by rw [hn]; exact nI_clamp (by omega)
  obtain ⟨i30, i31, i32⟩ := i3n k hk3
  rw [← hn] at i30 i31 i32
  have hM : ym_m_mode M n.toNatClampNeg = (yl_lmo s) := by rw [hnn]; exact h_mode
  have z_a1 : ym_m_a1 M n.toNatClampNeg = (yl_pa1 s).toInt64 := by rw [hnn]; exact h_a1
  have z_a2 : ym_m_a2 M n.toNatClampNeg = (yl_pa2 s).toInt64 := by rw [hnn]; exact h_a2
  have z_b : ym_m_b M n.toNatClampNeg = (yl_pb s).toInt64 := by rw [hnn]; exact h_b
  have z_deadTime : ym_m_deadTime M n.toNatClampNeg = (yl_pdt s) := by rw [hnn]; exact h_deadTime
  have z_load : ym_m_load M n.toNatClampNeg = (yl_pld s) := by rw [hnn]; exact h_load
  have z_measure : ym_m_measure M n.toNatClampNeg = (yl_pme s) := by rw [hnn]; exact h_measure
  have z_before : ym_m_before M n.toNatClampNeg = (yl_pmb s) := by rw [hnn]; exact h_before
  have z_low : ym_m_low M n.toNatClampNeg = (yl_klo s).toInt64 := by rw [hnn]; exact h_low
  have z_high : ym_m_high M n.toNatClampNeg = (yl_khi s).toInt64 := by rw [hnn]; exact h_high
  have z_setpoint : ym_m_setpoint M n.toNatClampNeg = (yl_ksp s) := by rw [hnn]; exact h_setpoint
  have z_integral : ym_m_integral M n.toNatClampNeg = (yl_kig s) := by rw [hnn]; exact h_integral
  have z_guard : ym_m_guard M n.toNatClampNeg = (yl_kgu s) := by rw [hnn]; exact h_guard
  have z_share : ym_m_share M n.toNatClampNeg = (yl_ksh s) := by rw [hnn]; exact h_share
  have z_mode : ym_m_mode M n.toNatClampNeg = (yl_lmo s) := by rw [hnn]; exact h_mode
  have z_hand : ym_m_hand M n.toNatClampNeg = (yl_lha s) := by rw [hnn]; exact h_hand
  have z_follows : ym_m_follows M n.toNatClampNeg = (yl_lfo s) := by rw [hnn]; exact h_follows
  have z_hasMaster : ym_m_hasMaster M n.toNatClampNeg = (yl_lma s) := by rw [hnn]; exact h_hasMaster
  have z_isStarved : ym_m_isStarved M n.toNatClampNeg = (yl_lst s) := by rw [hnn]; exact h_isStarved
  have z_held : ym_m_held M n.toNatClampNeg = (yl_khe s) := by rw [hnn]; exact h_held
  have z_sum : ym_m_sum M n.toNatClampNeg = (yl_ksu s) := by rw [hnn]; exact h_sum
  have z_lastError : ym_m_lastError M n.toNatClampNeg = (yl_kle s) := by rw [hnn]; exact h_lastError
  have z_lastRate : ym_m_lastRate M n.toNatClampNeg = (yl_klr s) := by rw [hnn]; exact h_lastRate
  have z_experiment : ym_m_experiment M n.toNatClampNeg = (yl_rpr s) := by rw [hnn]; exact h_experiment
  have z_center : ym_m_center M n.toNatClampNeg = (yl_rce s) := by rw [hnn]; exact h_center
  have z_height : ym_m_height M n.toNatClampNeg = (yl_rhe s) := by rw [hnn]; exact h_height
  have z_band : ym_m_band M n.toNatClampNeg = (yl_rba s) := by rw [hnn]; exact h_band
  have z_isUp : ym_m_isUp M n.toNatClampNeg = (yl_rup s) := by rw [hnn]; exact h_isUp
  have z_gone : ym_m_gone M n.toNatClampNeg = (yl_rsa s) := by rw [hnn]; exact h_gone
  have z_risings : ym_m_risings M n.toNatClampNeg = (yl_rri s) := by rw [hnn]; exact h_risings
  have z_second : ym_m_second M n.toNatClampNeg = (yl_rse s) := by rw [hnn]; exact h_second
  have z_greatest : ym_m_greatest M n.toNatClampNeg = (yl_rgr s) := by rw [hnn]; exact h_greatest
  have z_least : ym_m_least M n.toNatClampNeg = (yl_rle s) := by rw [hnn]; exact h_least
  have z_period : ym_m_period M n.toNatClampNeg = (yl_rpe s) := by rw [hnn]; exact h_period
  have z_swing : ym_m_swing M n.toNatClampNeg = (yl_rsw s) := by rw [hnn]; exact h_swing
  have z_gkp : ym_m_gain M ((3 : Int32) * n).toNatClampNeg = (yl_kp s).toInt64 := by rw [i30]; exact h_gkp
  have z_gki : ym_m_gain M (((3 : Int32) * n) + (1 : Int32)).toNatClampNeg = (yl_ki s).toInt64 := by rw [i31]; exact h_gki
  have z_gkd : ym_m_gain M (((3 : Int32) * n) + (2 : Int32)).toNatClampNeg = (yl_kd s).toInt64 := by rw [i32]; exact h_gkd
  have hM0 : ¬ ym_m_mode M n.toNatClampNeg = 0 := by rw [hM]; exact hL0
  have hM3 : ¬ ym_m_mode M n.toNatClampNeg = 3 := by rw [hM]; exact hL3
  obtain ⟨sp, hsp⟩ : ∃ z, z = f_X5_takeTurn_1_j1_1 (yl_lmo s) lou0 (yl_ksp s) := ⟨_, rfl⟩
  have hspm : f_X6_puts_j1_1 (ym_m_setpoint M) (ym_m_mode M) n lw = sp := by
    rw [hsp]; unfold f_X6_puts_j1_1 f_X5_takeTurn_1_j1_1; rw [hM, hnn, h_setpoint]
    by_cases c : (yl_lmo s) = 2
    · rw [if_pos c, if_pos c]; exact hlw c
    · rw [if_neg c, if_neg c]
  have hlk : vp_updL (ym_m_setpoint M) n.toNatClampNeg sp (n + (1 : Int32)).toNatClampNeg = ksp2 := (ul_ne _ _ hsp2.2).trans hsp2.1
  have hW : f_X6_within_j1_1 ksp2 (ym_m_low M n.toNatClampNeg) (ym_m_high M n.toNatClampNeg) = f_X0_withinLimits_r (yl_klo s) (yl_khi s) ksp2 := by rw [wl_eq h_i_lim, hnn, h_low, h_high]
  refine ⟨?_, h_a1, h_a2, h_b, h_deadTime, h_load, h_measure, h_before, h_low, h_high, ?_, ?_, h_guard, h_share, ?_, h_hand, h_follows, h_hasMaster, ?_, ?_, ?_, ?_, ?_, ?_, h_center, h_height, h_band, ?_, ?_, ?_, ?_, ?_, ?_, ?_, ?_, ?_, ?_, ?_, ?_, h_sched, h_i_lim, ?_, ?_, h_i_dt, h_i_me, ?_, ?_, ?_, ?_, ?_⟩
  · show (f_X6_puts_r (ym_m_measure M) (ym_m_before M) (ym_m_gain M) (ym_m_low M) (ym_m_high M) (ym_m_setpoint M) (ym_m_integral M) (ym_m_mode M) (ym_m_hand M) (ym_m_hasMaster M) (ym_m_points M) (ym_m_at M) (ym_m_then M) (ym_m_center M) (ym_m_height M) (ym_m_band M) (ym_m_isUp M) n lw) = (f_X5_takeTurn_1_j2_3 (yl_lmo s) (yl_lha s) lou0 lmo2 lma2 ksp2 (yl_kp s) (yl_ki s) (yl_kd s) (yl_klo s) (yl_khi s) (yl_ksp s) (yl_kig s) (yl_pme s) (yl_pmb s) (yl_rce s) (yl_rhe s) (yl_rba s) (yl_rup s) (yl_sn s) (yl_gm s) (yl_gp s) (yl_gi s) (yl_gd s))
    simp only [f_X6_puts_r, f_X5_takeTurn_1_j2_3, if_neg hL0, if_neg hL3, if_neg hM0, if_neg hM3, if_neg hF, if_neg hS, hspm, ← hsp]
    rw [hlk]; exact hW
  · show (f_X6_puts_m_setpoint (ym_m_measure M) (ym_m_setpoint M) (ym_m_mode M) (ym_m_follows M) n lw) k = (f_X5_takeTurn_1_j2_8 (yl_lmo s) (yl_lfo s) lou0 lmo2 lma2 (yl_ksp s) (yl_pme s))
    simp only [f_X5_takeTurn_1_j2_8, f_X6_puts_m_setpoint, if_neg hL0, if_neg hL3, if_neg hM0, if_neg hM3, if_neg hF, if_neg hS, hspm, ← hsp]
    rw [hnn, ul_eq]
  · show (f_X6_puts_m_integral (ym_m_measure M) (ym_m_before M) (ym_m_gain M) (ym_m_low M) (ym_m_high M) (ym_m_setpoint M) (ym_m_integral M) (ym_m_guard M) (ym_m_share M) (ym_m_mode M) (ym_m_hasMaster M) (ym_m_points M) (ym_m_at M) (ym_m_then M) (ym_m_experiment M) (ym_m_center M) (ym_m_band M) (ym_m_isUp M) (ym_m_gone M) (ym_m_risings M) n lw) k = (f_X5_takeTurn_1_j2_9 (yl_lmo s) lou0 lmo2 lma2 ksp2 (yl_kp s) (yl_ki s) (yl_kd s) (yl_klo s) (yl_khi s) (yl_kgu s) (yl_ksh s) (yl_ksp s) (yl_kig s) (yl_pme s) (yl_pmb s) (yl_rpr s) (yl_rce s) (yl_rba s) (yl_rup s) (yl_rsa s) (yl_rri s) (yl_sn s) (yl_gm s) (yl_gp s) (yl_gi s) (yl_gd s))
    simp only [f_X5_takeTurn_1_j2_9, f_X6_puts_m_integral, if_neg hL0, if_neg hL3, if_neg hM0, if_neg hM3, if_neg hF, if_neg hS, hspm, ← hsp]
    rw [hlk, hW, stl_eq z_gkp z_gkd (ul_eq _ _ _) z_measure z_before rfl, hnn, ul_eq]
    rfl
  · show (f_X6_puts_m_mode (ym_m_measure M) (ym_m_setpoint M) (ym_m_mode M) (ym_m_experiment M) (ym_m_band M) (ym_m_isUp M) (ym_m_gone M) (ym_m_risings M) n) k = (f_X5_takeTurn_1_j2_1 (yl_lmo s) lou0 lmo2 lma2 (yl_ksp s) (yl_pme s) (yl_rpr s) (yl_rba s) (yl_rup s) (yl_rsa s) (yl_rri s))
    simp only [f_X5_takeTurn_1_j2_1, f_X6_puts_m_mode, if_neg hL0, if_neg hL3, if_neg hM0, if_neg hM3, if_neg hF, if_neg hS, hspm, ← hsp]
    exact h_mode
  · show (f_X6_puts_m_isStarved (ym_m_mode M) (ym_m_hasMaster M) (ym_m_isStarved M) n) k = (f_X5_takeTurn_1_j2_2 (yl_lmo s) lmo2 lma2)
    simp only [f_X5_takeTurn_1_j2_2, f_X6_puts_m_isStarved, if_neg hL0, if_neg hL3, if_neg hM0, if_neg hM3, if_neg hF, if_neg hS, hspm, ← hsp]
    rw [hnn, u_eq]
    rfl
  · show (f_X6_puts_m_held (ym_m_measure M) (ym_m_before M) (ym_m_gain M) (ym_m_low M) (ym_m_high M) (ym_m_setpoint M) (ym_m_integral M) (ym_m_mode M) (ym_m_hasMaster M) (ym_m_held M) (ym_m_points M) (ym_m_at M) (ym_m_then M) n lw) k = (f_X5_takeTurn_1_j2_7 (yl_lmo s) lou0 lmo2 lma2 (yl_kp s) (yl_ki s) (yl_kd s) (yl_klo s) (yl_khi s) (yl_khe s) (yl_ksp s) (yl_kig s) (yl_pme s) (yl_pmb s) (yl_sn s) (yl_gm s) (yl_gp s) (yl_gi s) (yl_gd s))
    simp only [f_X5_takeTurn_1_j2_7, f_X6_puts_m_held, if_neg hL0, if_neg hL3, if_neg hM0, if_neg hM3, if_neg hF, if_neg hS, hspm, ← hsp]
    exact h_held
  · show (f_X6_puts_m_sum (ym_m_measure M) (ym_m_before M) (ym_m_gain M) (ym_m_setpoint M) (ym_m_integral M) (ym_m_mode M) (ym_m_hasMaster M) (ym_m_sum M) (ym_m_lastError M) (ym_m_lastRate M) (ym_m_goesOn M) (ym_m_points M) (ym_m_at M) (ym_m_then M) n lw) k = (f_X5_takeTurn_1_j2_10 (yl_lmo s) lou0 lmo2 lma2 (yl_kp s) (yl_ki s) (yl_kd s) (yl_ksp s) (yl_kig s) (yl_ksu s) (yl_kle s) (yl_klr s) (yl_kgo s) (yl_pme s) (yl_pmb s) (yl_sn s) (yl_gm s) (yl_gp s) (yl_gi s) (yl_gd s))
    simp only [f_X5_takeTurn_1_j2_10, f_X6_puts_m_sum, if_neg hL0, if_neg hL3, if_neg hM0, if_neg hM3, if_neg hF, if_neg hS, hspm, ← hsp]
    exact h_sum
  · show (f_X6_puts_m_lastError (ym_m_measure M) (ym_m_setpoint M) (ym_m_mode M) (ym_m_hasMaster M) (ym_m_lastError M) n lw) k = (f_X5_takeTurn_1_j2_11 (yl_lmo s) lou0 lmo2 lma2 (yl_ksp s) (yl_kle s) (yl_pme s))
    simp only [f_X5_takeTurn_1_j2_11, f_X6_puts_m_lastError, if_neg hL0, if_neg hL3, if_neg hM0, if_neg hM3, if_neg hF, if_neg hS, hspm, ← hsp]
    exact h_lastError
  · show (f_X6_puts_m_lastRate (ym_m_measure M) (ym_m_before M) (ym_m_mode M) (ym_m_hasMaster M) (ym_m_lastRate M) n) k = (f_X5_takeTurn_1_j2_12 (yl_lmo s) lmo2 lma2 (yl_klr s) (yl_pme s) (yl_pmb s))
    simp only [f_X5_takeTurn_1_j2_12, f_X6_puts_m_lastRate, if_neg hL0, if_neg hL3, if_neg hM0, if_neg hM3, if_neg hF, if_neg hS, hspm, ← hsp]
    exact h_lastRate
  · show (f_X6_puts_m_experiment (ym_m_measure M) (ym_m_setpoint M) (ym_m_mode M) (ym_m_experiment M) (ym_m_band M) (ym_m_isUp M) (ym_m_gone M) (ym_m_risings M) n) k = (f_X5_takeTurn_1_j2_14 (yl_lmo s) lou0 lmo2 lma2 (yl_ksp s) (yl_pme s) (yl_rpr s) (yl_rba s) (yl_rup s) (yl_rsa s) (yl_rri s))
    simp only [f_X5_takeTurn_1_j2_14, f_X6_puts_m_experiment, if_neg hL0, if_neg hL3, if_neg hM0, if_neg hM3, if_neg hF, if_neg hS, hspm, ← hsp]
    exact h_experiment
  · show (f_X6_puts_m_isUp (ym_m_measure M) (ym_m_setpoint M) (ym_m_mode M) (ym_m_band M) (ym_m_isUp M) n) k = (f_X5_takeTurn_1_j2_17 (yl_lmo s) lou0 lmo2 lma2 (yl_ksp s) (yl_pme s) (yl_rba s) (yl_rup s))
    simp only [f_X5_takeTurn_1_j2_17, f_X6_puts_m_isUp, if_neg hL0, if_neg hL3, if_neg hM0, if_neg hM3, if_neg hF, if_neg hS, hspm, ← hsp]
    exact h_isUp
  · show (f_X6_puts_m_gone (ym_m_mode M) (ym_m_gone M) n) k = (f_X5_takeTurn_1_j2_18 (yl_lmo s) lmo2 lma2 (yl_rsa s))
    simp only [f_X5_takeTurn_1_j2_18, f_X6_puts_m_gone, if_neg hL0, if_neg hL3, if_neg hM0, if_neg hM3, if_neg hF, if_neg hS, hspm, ← hsp]
    exact h_gone
  · show (f_X6_puts_m_risings (ym_m_measure M) (ym_m_setpoint M) (ym_m_mode M) (ym_m_band M) (ym_m_isUp M) (ym_m_risings M) n) k = (f_X5_takeTurn_1_j2_19 (yl_lmo s) lou0 lmo2 lma2 (yl_ksp s) (yl_pme s) (yl_rba s) (yl_rup s) (yl_rri s))
    simp only [f_X5_takeTurn_1_j2_19, f_X6_puts_m_risings, if_neg hL0, if_neg hL3, if_neg hM0, if_neg hM3, if_neg hF, if_neg hS, hspm, ← hsp]
    exact h_risings
  · show (f_X6_puts_m_second (ym_m_measure M) (ym_m_setpoint M) (ym_m_mode M) (ym_m_band M) (ym_m_isUp M) (ym_m_gone M) (ym_m_risings M) (ym_m_second M) n) k = (f_X5_takeTurn_1_j2_20 (yl_lmo s) lou0 lmo2 lma2 (yl_ksp s) (yl_pme s) (yl_rba s) (yl_rup s) (yl_rsa s) (yl_rri s) (yl_rse s))
    simp only [f_X5_takeTurn_1_j2_20, f_X6_puts_m_second, if_neg hL0, if_neg hL3, if_neg hM0, if_neg hM3, if_neg hF, if_neg hS, hspm, ← hsp]
    exact h_second
  · show (f_X6_puts_m_greatest (ym_m_measure M) (ym_m_setpoint M) (ym_m_mode M) (ym_m_band M) (ym_m_isUp M) (ym_m_greatest M) n) k = (f_X5_takeTurn_1_j2_21 (yl_lmo s) lou0 lmo2 lma2 (yl_ksp s) (yl_pme s) (yl_rba s) (yl_rup s) (yl_rgr s))
    simp only [f_X5_takeTurn_1_j2_21, f_X6_puts_m_greatest, if_neg hL0, if_neg hL3, if_neg hM0, if_neg hM3, if_neg hF, if_neg hS, hspm, ← hsp]
    exact h_greatest
  · show (f_X6_puts_m_least (ym_m_measure M) (ym_m_setpoint M) (ym_m_mode M) (ym_m_band M) (ym_m_isUp M) (ym_m_least M) n) k = (f_X5_takeTurn_1_j2_22 (yl_lmo s) lou0 lmo2 lma2 (yl_ksp s) (yl_pme s) (yl_rba s) (yl_rup s) (yl_rle s))
    simp only [f_X5_takeTurn_1_j2_22, f_X6_puts_m_least, if_neg hL0, if_neg hL3, if_neg hM0, if_neg hM3, if_neg hF, if_neg hS, hspm, ← hsp]
    exact h_least
  · show (f_X6_puts_m_period (ym_m_measure M) (ym_m_setpoint M) (ym_m_mode M) (ym_m_band M) (ym_m_isUp M) (ym_m_gone M) (ym_m_risings M) (ym_m_second M) (ym_m_period M) n) k = (f_X5_takeTurn_1_j2_15 (yl_lmo s) lou0 lmo2 lma2 (yl_ksp s) (yl_pme s) (yl_rpe s) (yl_rba s) (yl_rup s) (yl_rsa s) (yl_rri s) (yl_rse s))
    simp only [f_X5_takeTurn_1_j2_15, f_X6_puts_m_period, if_neg hL0, if_neg hL3, if_neg hM0, if_neg hM3, if_neg hF, if_neg hS, hspm, ← hsp]
    exact h_period
  · show (f_X6_puts_m_swing (ym_m_measure M) (ym_m_setpoint M) (ym_m_mode M) (ym_m_band M) (ym_m_isUp M) (ym_m_risings M) (ym_m_greatest M) (ym_m_least M) (ym_m_swing M) n) k = (f_X5_takeTurn_1_j2_16 (yl_lmo s) lou0 lmo2 lma2 (yl_ksp s) (yl_pme s) (yl_rsw s) (yl_rba s) (yl_rup s) (yl_rri s) (yl_rgr s) (yl_rle s))
    simp only [f_X5_takeTurn_1_j2_16, f_X6_puts_m_swing, if_neg hL0, if_neg hL3, if_neg hM0, if_neg hM3, if_neg hF, if_neg hS, hspm, ← hsp]
    exact h_swing
  · show (f_X6_puts_m_gain (ym_m_measure M) (ym_m_gain M) (ym_m_mode M) (ym_m_hasMaster M) (ym_m_points M) (ym_m_at M) (ym_m_then M) n) (3 * k) = (f_X5_takeTurn_1_j2_4 (yl_lmo s) lmo2 lma2 (yl_kp s) (yl_pme s) (yl_sn s) (yl_gm s) (yl_gp s)).toInt64
    simp only [f_X5_takeTurn_1_j2_4, f_X6_puts_m_gain, if_neg hL0, if_neg hL3, if_neg hM0, if_neg hM3, if_neg hF, if_neg hS, hspm, ← hsp]
    exact h_gkp
  · show (f_X6_puts_m_gain (ym_m_measure M) (ym_m_gain M) (ym_m_mode M) (ym_m_hasMaster M) (ym_m_points M) (ym_m_at M) (ym_m_then M) n) (3 * k + 1) = (f_X5_takeTurn_1_j2_5 (yl_lmo s) lmo2 lma2 (yl_ki s) (yl_pme s) (yl_sn s) (yl_gm s) (yl_gi s)).toInt64
    simp only [f_X5_takeTurn_1_j2_5, f_X6_puts_m_gain, if_neg hL0, if_neg hL3, if_neg hM0, if_neg hM3, if_neg hF, if_neg hS, hspm, ← hsp]
    exact h_gki
  · show (f_X6_puts_m_gain (ym_m_measure M) (ym_m_gain M) (ym_m_mode M) (ym_m_hasMaster M) (ym_m_points M) (ym_m_at M) (ym_m_then M) n) (3 * k + 2) = (f_X5_takeTurn_1_j2_6 (yl_lmo s) lmo2 lma2 (yl_kd s) (yl_pme s) (yl_sn s) (yl_gm s) (yl_gd s)).toInt64
    simp only [f_X5_takeTurn_1_j2_6, f_X6_puts_m_gain, if_neg hL0, if_neg hL3, if_neg hM0, if_neg hM3, if_neg hF, if_neg hS, hspm, ← hsp]
    exact h_gkd
  · show Rgo (f_X5_takeTurn_1_j2_1 (yl_lmo s) lou0 lmo2 lma2 (yl_ksp s) (yl_pme s) (yl_rpr s) (yl_rba s) (yl_rup s) (yl_rsa s) (yl_rri s)) (f_X5_takeTurn_1_j2_13 (yl_lmo s) lou0 lmo2 lma2 (yl_ksp s) (yl_kgo s) (yl_pme s) (yl_rpr s) (yl_rba s) (yl_rup s) (yl_rsa s) (yl_rri s)) ((f_X6_puts_m_goesOn (ym_m_measure M) (ym_m_setpoint M) (ym_m_mode M) (ym_m_hasMaster M) (ym_m_goesOn M) (ym_m_experiment M) (ym_m_band M) (ym_m_isUp M) (ym_m_gone M) (ym_m_risings M) n) k)
    simp only [f_X5_takeTurn_1_j2_1, f_X5_takeTurn_1_j2_13, f_X6_puts_m_goesOn, if_neg hL0, if_neg hL3, if_neg hM0, if_neg hM3, if_neg hF, if_neg hS, hspm, ← hsp]
    intro _
    unfold f_X6_settle_m_goesOn
    rw [hnn, u_eq]
    rfl
  · show Gb (f_X5_takeTurn_1_j2_4 (yl_lmo s) lmo2 lma2 (yl_kp s) (yl_pme s) (yl_sn s) (yl_gm s) (yl_gp s)) (f_X5_takeTurn_1_j2_5 (yl_lmo s) lmo2 lma2 (yl_ki s) (yl_pme s) (yl_sn s) (yl_gm s) (yl_gi s)) (f_X5_takeTurn_1_j2_6 (yl_lmo s) lmo2 lma2 (yl_kd s) (yl_pme s) (yl_sn s) (yl_gm s) (yl_gd s))
    simp only [f_X5_takeTurn_1_j2_4, f_X5_takeTurn_1_j2_5, f_X5_takeTurn_1_j2_6, if_neg hL0, if_neg hL3, if_neg hM0, if_neg hM3, if_neg hF, if_neg hS, hspm, ← hsp]
    exact h_i_gb
  · show Imd (f_X5_takeTurn_1_j2_1 (yl_lmo s) lou0 lmo2 lma2 (yl_ksp s) (yl_pme s) (yl_rpr s) (yl_rba s) (yl_rup s) (yl_rsa s) (yl_rri s))
    simp only [f_X5_takeTurn_1_j2_1, if_neg hL0, if_neg hL3, if_neg hM0, if_neg hM3, if_neg hF, if_neg hS, hspm, ← hsp]
    exact h_i_md
  · show Ist (f_X5_takeTurn_1_j2_2 (yl_lmo s) lmo2 lma2)
    simp only [f_X5_takeTurn_1_j2_2, if_neg hL0, if_neg hL3, if_neg hM0, if_neg hM3, if_neg hF, if_neg hS, hspm, ← hsp]
    exact Or.inr rfl
  · show Ist (f_X5_takeTurn_1_j2_17 (yl_lmo s) lou0 lmo2 lma2 (yl_ksp s) (yl_pme s) (yl_rba s) (yl_rup s))
    simp only [f_X5_takeTurn_1_j2_17, if_neg hL0, if_neg hL3, if_neg hM0, if_neg hM3, if_neg hF, if_neg hS, hspm, ← hsp]
    exact h_i_up
  · show Igl (f_X5_takeTurn_1_j2_21 (yl_lmo s) lou0 lmo2 lma2 (yl_ksp s) (yl_pme s) (yl_rba s) (yl_rup s) (yl_rgr s)) (f_X5_takeTurn_1_j2_22 (yl_lmo s) lou0 lmo2 lma2 (yl_ksp s) (yl_pme s) (yl_rba s) (yl_rup s) (yl_rle s))
    simp only [f_X5_takeTurn_1_j2_21, f_X5_takeTurn_1_j2_22, if_neg hL0, if_neg hL3, if_neg hM0, if_neg hM3, if_neg hF, if_neg hS, hspm, ← hsp]
    exact h_i_gl
  · show Isw (f_X5_takeTurn_1_j2_16 (yl_lmo s) lou0 lmo2 lma2 (yl_ksp s) (yl_pme s) (yl_rsw s) (yl_rba s) (yl_rup s) (yl_rri s) (yl_rgr s) (yl_rle s)) (f_X5_takeTurn_1_j2_15 (yl_lmo s) lou0 lmo2 lma2 (yl_ksp s) (yl_pme s) (yl_rpe s) (yl_rba s) (yl_rup s) (yl_rsa s) (yl_rri s) (yl_rse s)) (yl_rhe s)
    simp only [f_X5_takeTurn_1_j2_16, f_X5_takeTurn_1_j2_15, if_neg hL0, if_neg hL3, if_neg hM0, if_neg hM3, if_neg hF, if_neg hS, hspm, ← hsp]
    exact h_i_sw
  · show Irl (f_X5_takeTurn_1_j2_1 (yl_lmo s) lou0 lmo2 lma2 (yl_ksp s) (yl_pme s) (yl_rpr s) (yl_rba s) (yl_rup s) (yl_rsa s) (yl_rri s)) (f_X5_takeTurn_1_j2_14 (yl_lmo s) lou0 lmo2 lma2 (yl_ksp s) (yl_pme s) (yl_rpr s) (yl_rba s) (yl_rup s) (yl_rsa s) (yl_rri s)) (f_X5_takeTurn_1_j2_18 (yl_lmo s) lmo2 lma2 (yl_rsa s)) (f_X5_takeTurn_1_j2_19 (yl_lmo s) lou0 lmo2 lma2 (yl_ksp s) (yl_pme s) (yl_rba s) (yl_rup s) (yl_rri s)) (f_X5_takeTurn_1_j2_20 (yl_lmo s) lou0 lmo2 lma2 (yl_ksp s) (yl_pme s) (yl_rba s) (yl_rup s) (yl_rsa s) (yl_rri s) (yl_rse s))
    simp only [f_X5_takeTurn_1_j2_1, f_X5_takeTurn_1_j2_14, f_X5_takeTurn_1_j2_18, f_X5_takeTurn_1_j2_19, f_X5_takeTurn_1_j2_20, if_neg hL0, if_neg hL3, if_neg hM0, if_neg hM3, if_neg hF, if_neg hS, hspm, ← hsp]
    exact h_i_rl
