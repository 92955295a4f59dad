section OT
variable {n : Int32} {lw : Int64} {M : MT} {j : Nat}
theorem oq_setpoint (hj : ¬ j = n.toNatClampNeg) : ym_m_setpoint (pq n lw M) j = ym_m_setpoint M j := by
  show f_X6_puts_m_setpoint _ _ _ _ _ _ j = _
  unfold f_X6_puts_m_setpoint
  repeat' (first | refine (ul_ne _ _ hj).trans ?_ | split)
  all_goals rfl
theorem oq_mode (hj : ¬ j = n.toNatClampNeg) : ym_m_mode (pq n lw M) j = ym_m_mode M j := by
  show f_X6_puts_m_mode _ _ _ _ _ _ _ _ _ j = _
  unfold f_X6_puts_m_mode f_X6_relays_j8_2
  repeat' (first | refine (u_ne _ _ hj).trans ?_ | split)
  all_goals rfl
theorem oq_isStarved (hj : ¬ j = n.toNatClampNeg) : ym_m_isStarved (pq n lw M) j = ym_m_isStarved M j := by
  show f_X6_puts_m_isStarved _ _ _ _ j = _
  unfold f_X6_puts_m_isStarved
  repeat' (first | refine (u_ne _ _ hj).trans ?_ | split)
  all_goals rfl
theorem oq_held (hj : ¬ j = n.toNatClampNeg) : ym_m_held (pq n lw M) j = ym_m_held M j := by
  show f_X6_puts_m_held _ _ _ _ _ _ _ _ _ _ _ _ _ _ _ j = _
  unfold f_X6_puts_m_held f_X6_controls_m_held
  repeat' (first | refine (u_ne _ _ hj).trans ?_ | split)
  all_goals rfl
theorem oq_sum (hj : ¬ j = n.toNatClampNeg) : ym_m_sum (pq n lw M) j = ym_m_sum M j := by
  show f_X6_puts_m_sum _ _ _ _ _ _ _ _ _ _ _ _ _ _ _ _ j = _
  unfold f_X6_puts_m_sum f_X6_controls_m_sum
  repeat' (first | refine (ul_ne _ _ hj).trans ?_ | split)
  all_goals rfl
theorem oq_lastError (hj : ¬ j = n.toNatClampNeg) : ym_m_lastError (pq n lw M) j = ym_m_lastError M j := by
  show f_X6_puts_m_lastError _ _ _ _ _ _ _ j = _
  unfold f_X6_puts_m_lastError f_X6_controls_m_lastError
  repeat' (first | refine (ul_ne _ _ hj).trans ?_ | split)
  all_goals rfl
theorem oq_lastRate (hj : ¬ j = n.toNatClampNeg) : ym_m_lastRate (pq n lw M) j = ym_m_lastRate M j := by
  show f_X6_puts_m_lastRate _ _ _ _ _ _ j = _
  unfold f_X6_puts_m_lastRate f_X6_controls_m_lastRate
  repeat' (first | refine (ul_ne _ _ hj).trans ?_ | split)
  all_goals rfl
theorem oq_goesOn (hj : ¬ j = n.toNatClampNeg) : ym_m_goesOn (pq n lw M) j = ym_m_goesOn M j := by
  show f_X6_puts_m_goesOn _ _ _ _ _ _ _ _ _ _ _ j = _
  unfold f_X6_puts_m_goesOn f_X6_relays_j8_3 f_X6_controls_m_goesOn f_X6_settle_m_goesOn
  repeat' (first | refine (u_ne _ _ hj).trans ?_ | split)
  all_goals rfl
theorem oq_experiment (hj : ¬ j = n.toNatClampNeg) : ym_m_experiment (pq n lw M) j = ym_m_experiment M j := by
  show f_X6_puts_m_experiment _ _ _ _ _ _ _ _ _ j = _
  have h4 : ∀ (me sp : Nat → Int64) (ex ba up ri : Nat → Int32), f_X6_relays_j4_1 me sp ex ba up ri n j = ex j := fun me sp ex ba up ri => by
    unfold f_X6_relays_j4_1 f_X6_relays_j3_1
    repeat' (first | refine (u_ne _ _ hj).trans ?_ | split)
    all_goals rfl
  unfold f_X6_puts_m_experiment f_X6_relays_j7_1
  repeat' (first | exact h4 _ _ _ _ _ _ | refine (u_ne _ _ hj).trans ?_ | split)
  all_goals rfl
theorem oq_isUp (hj : ¬ j = n.toNatClampNeg) : ym_m_isUp (pq n lw M) j = ym_m_isUp M j := by
  show f_X6_puts_m_isUp _ _ _ _ _ _ j = _
  unfold f_X6_puts_m_isUp f_X6_relays_m_isUp
  repeat' (first | refine (u_ne _ _ hj).trans ?_ | split)
  all_goals rfl
theorem oq_gone (hj : ¬ j = n.toNatClampNeg) : ym_m_gone (pq n lw M) j = ym_m_gone M j := by
  show f_X6_puts_m_gone _ _ _ j = _
  unfold f_X6_puts_m_gone f_X6_relays_m_gone
  repeat' (first | refine (u_ne _ _ hj).trans ?_ | split)
  all_goals rfl
theorem oq_risings (hj : ¬ j = n.toNatClampNeg) : ym_m_risings (pq n lw M) j = ym_m_risings M j := by
  show f_X6_puts_m_risings _ _ _ _ _ _ _ j = _
  unfold f_X6_puts_m_risings f_X6_relays_j4_2
  repeat' (first | refine (u_ne _ _ hj).trans ?_ | split)
  all_goals rfl
theorem oq_second (hj : ¬ j = n.toNatClampNeg) : ym_m_second (pq n lw M) j = ym_m_second M j := by
  show f_X6_puts_m_second _ _ _ _ _ _ _ _ _ j = _
  unfold f_X6_puts_m_second f_X6_relays_j4_3
  repeat' (first | refine (u_ne _ _ hj).trans ?_ | split)
  all_goals rfl
theorem oq_greatest (hj : ¬ j = n.toNatClampNeg) : ym_m_greatest (pq n lw M) j = ym_m_greatest M j := by
  show f_X6_puts_m_greatest _ _ _ _ _ _ _ j = _
  unfold f_X6_puts_m_greatest f_X6_relays_m_greatest f_X6_relays_j4_4
  repeat' (first | refine (ul_ne _ _ hj).trans ?_ | split)
  all_goals rfl
theorem oq_least (hj : ¬ j = n.toNatClampNeg) : ym_m_least (pq n lw M) j = ym_m_least M j := by
  show f_X6_puts_m_least _ _ _ _ _ _ _ j = _
  unfold f_X6_puts_m_least f_X6_relays_m_least f_X6_relays_j4_5
  repeat' (first | refine (ul_ne _ _ hj).trans ?_ | split)
  all_goals rfl
theorem oq_period (hj : ¬ j = n.toNatClampNeg) : ym_m_period (pq n lw M) j = ym_m_period M j := by
  show f_X6_puts_m_period _ _ _ _ _ _ _ _ _ _ j = _
  unfold f_X6_puts_m_period f_X6_relays_j4_6 f_X6_relays_j3_2
  repeat' (first | refine (u_ne _ _ hj).trans ?_ | split)
  all_goals rfl
theorem oq_swing (hj : ¬ j = n.toNatClampNeg) : ym_m_swing (pq n lw M) j = ym_m_swing M j := by
  show f_X6_puts_m_swing _ _ _ _ _ _ _ _ _ _ j = _
  unfold f_X6_puts_m_swing f_X6_relays_j4_7 f_X6_relays_j3_3
  repeat' (first | refine (ul_ne _ _ hj).trans ?_ | split)
  all_goals rfl
theorem oq_integral (hj : ¬ j = n.toNatClampNeg) : ym_m_integral (pq n lw M) j = ym_m_integral M j := by
  show f_X6_puts_m_integral _ _ _ _ _ _ _ _ _ _ _ _ _ _ _ _ _ _ _ _ _ _ j = _
  unfold f_X6_puts_m_integral f_X6_relays_j8_1 f_X6_settle_m_integral
  repeat' (first | exact ct_ne hj | refine (ul_ne _ _ hj).trans ?_ | split)
  all_goals rfl
theorem oq_gain (h0 : ¬ j = ((3 : Int32) * n).toNatClampNeg) (h1 : ¬ j = (((3 : Int32) * n) + (1 : Int32)).toNatClampNeg) (h2 : ¬ j = (((3 : Int32) * n) + (2 : Int32)).toNatClampNeg) : ym_m_gain (pq n lw M) j = ym_m_gain M j := by
  show f_X6_puts_m_gain _ _ _ _ _ _ _ _ j = _
  unfold f_X6_puts_m_gain f_X6_schedules_m_gain f_X6_changes_m_gain
  repeat' (first | refine (ul_ne _ _ h2).trans ((ul_ne _ _ h1).trans ((ul_ne _ _ h0).trans ?_)) | split)
  all_goals rfl
end OT
theorem turn_o {k : Nat} {n : Int32} {s : LT} {M : MT} {lw : Int64} {j : Nat} (hk3 : k < 3) (hn : n = nI k) (hjk : ¬ j = k) (hR : R1 j s M) : R1 j s (pq n lw M) := by
  obtain ⟨h_a1, h_a2, h_b, h_deadTime, h_load, h_measure, h_before, h_low, h_high, h_setpoint, h_integral, h_guard, h_share, h_mode, h_hand, h_follows, h_hasMaster, h_isStarved, h_held, h_sum, h_lastError, h_lastRate, h_experiment, h_center, h_height, h_band, h_isUp, h_gone, h_risings, h_second, h_greatest, h_least, h_period, h_swing, h_gkp, h_gki, h_gkd, h_go, h_sched, h_i_lim, h_i_gb, h_i_md, h_i_dt, h_i_me, h_i_st, h_i_up, h_i_gl, h_i_sw, h_i_rl⟩ := R1_iff.mp hR
  have hnn : n.toNatClampNeg = k := by rw [hn]; exact nI_clamp (by omega)
  have hj : ¬ j = n.toNatClampNeg := by rw [hnn]; exact hjk
  obtain ⟨i30, i31, i32⟩ := i3n k hk3
  rw [← hn] at i30 i31 i32
  have hg : ∀ q : Nat, q < 3 → ym_m_gain (pq n lw M) (3 * j + q) = ym_m_gain M (3 * j + q) := fun q hq => oq_gain (lw := lw) (by rw [i30]; omega) (by rw [i31]; omega) (by rw [i32]; omega)
  exact ⟨h_a1, h_a2, h_b, h_deadTime, h_load, h_measure, h_before, h_low, h_high, (oq_setpoint (lw := lw) hj).trans h_setpoint, (oq_integral (lw := lw) hj).trans h_integral, h_guard, h_share, (oq_mode (lw := lw) hj).trans h_mode, h_hand, h_follows, h_hasMaster, (oq_isStarved (lw := lw) hj).trans h_isStarved, (oq_held (lw := lw) hj).trans h_held, (oq_sum (lw := lw) hj).trans h_sum, (oq_lastError (lw := lw) hj).trans h_lastError, (oq_lastRate (lw := lw) hj).trans h_lastRate, (oq_experiment (lw := lw) hj).trans h_experiment, h_center, h_height, h_band, (oq_isUp (lw := lw) hj).trans h_isUp, (oq_gone (lw := lw) hj).trans h_gone, (oq_risings (lw := lw) hj).trans h_risings, (oq_second (lw := lw) hj).trans h_second, (oq_greatest (lw := lw) hj).trans h_greatest, (oq_least (lw := lw) hj).trans h_least, (oq_period (lw := lw) hj).trans h_period, (oq_swing (lw := lw) hj).trans h_swing, (hg 0 (by decide)).trans h_gkp, (hg 1 (by decide)).trans h_gki, (hg 2 (by decide)).trans h_gkd, fun h => (oq_goesOn (lw := lw) hj).trans (h_go h), h_sched, h_i_lim, h_i_gb, h_i_md, h_i_dt, h_i_me, h_i_st, h_i_up, h_i_gl, h_i_sw, h_i_rl⟩
