theorem r1_of {T : LT × LT × LT} {bs : Int32} {M : MT} (hR : Rel T bs M) : R1 0 T.1 M ∧ R1 1 T.2.1 M ∧ R1 2 T.2.2 M := by
  obtain ⟨h_bs, h_a1, h_a2, h_b, h_deadTime, h_load, h_measure, h_before, h_low, h_high, h_setpoint, h_integral, h_guard, h_share, h_mode, h_hand, h_follows, h_hasMaster, h_isStarved, h_held, h_sum, h_lastError, h_lastRate, h_experiment, h_center, h_height, h_band, h_isUp, h_gone, h_risings, h_second, h_greatest, h_least, h_period, h_swing, h_gain, h_past, h_go, h_sched, h_i_lim, h_i_gb, h_i_md, h_i_dt, h_i_me, h_i_st, h_i_up, h_i_gl, h_i_sw, h_i_rl, h_i_m0⟩ := Rel_iff.mp hR
  exact ⟨R1_iff.mpr ⟨h_a1.1, h_a2.1, h_b.1, h_deadTime.1, h_load.1, h_measure.1, h_before.1, h_low.1, h_high.1, h_setpoint.1, h_integral.1, h_guard.1, h_share.1, h_mode.1, h_hand.1, h_follows.1, h_hasMaster.1, h_isStarved.1, h_held.1, h_sum.1, h_lastError.1, h_lastRate.1, h_experiment.1, h_center.1, h_height.1, h_band.1, h_isUp.1, h_gone.1, h_risings.1, h_second.1, h_greatest.1, h_least.1, h_period.1, h_swing.1, h_gain.1, h_gain.2.1, h_gain.2.2.1, h_go.1, h_sched.1, h_i_lim.1, h_i_gb.1, h_i_md.1, h_i_dt.1, h_i_me.1, h_i_st.1, h_i_up.1, h_i_gl.1, h_i_sw.1, h_i_rl.1⟩, R1_iff.mpr ⟨h_a1.2.1, h_a2.2.1, h_b.2.1, h_deadTime.2.1, h_load.2.1, h_measure.2.1, h_before.2.1, h_low.2.1, h_high.2.1, h_setpoint.2.1, h_integral.2.1, h_guard.2.1, h_share.2.1, h_mode.2.1, h_hand.2.1, h_follows.2.1, h_hasMaster.2.1, h_isStarved.2.1, h_held.2.1, h_sum.2.1, h_lastError.2.1, h_lastRate.2.1, h_experiment.2.1, h_center.2.1, h_height.2.1, h_band.2.1, h_isUp.2.1, h_gone.2.1, h_risings.2.1, h_second.2.1, h_greatest.2.1, h_least.2.1, h_period.2.1, h_swing.2.1, h_gain.2.2.2.1, h_gain.2.2.2.2.1, h_gain.2.2.2.2.2.1, h_go.2.1, h_sched.2.1, h_i_lim.2.1, h_i_gb.2.1, h_i_md.2.1, h_i_dt.2.1, h_i_me.2.1, h_i_st.2.1, h_i_up.2.1, h_i_gl.2.1, h_i_sw.2.1, h_i_rl.2.1⟩, R1_iff.mpr ⟨h_a1.2.2, h_a2.2.2, h_b.2.2, h_deadTime.2.2, h_load.2.2, h_measure.2.2, h_before.2.2, h_low.2.2, h_high.2.2, h_setpoint.2.2, h_integral.2.2, h_guard.2.2, h_share.2.2, h_mode.2.2, h_hand.2.2, h_follows.2.2, h_hasMaster.2.2, h_isStarved.2.2, h_held.2.2, h_sum.2.2, h_lastError.2.2, h_lastRate.2.2, h_experiment.2.2, h_center.2.2, h_height.2.2, h_band.2.2, h_isUp.2.2, h_gone.2.2, h_risings.2.2, h_second.2.2, h_greatest.2.2, h_least.2.2, h_period.2.2, h_swing.2.2, h_gain.2.2.2.2.2.2.1, h_gain.2.2.2.2.2.2.2.1, h_gain.2.2.2.2.2.2.2.2, h_go.2.2, h_sched.2.2, h_i_lim.2.2, h_i_gb.2.2, h_i_md.2.2, h_i_dt.2.2, h_i_me.2.2, h_i_st.2.2, h_i_up.2.2, h_i_gl.2.2, h_i_sw.2.2, h_i_rl.2.2⟩⟩
theorem r1_to {T : LT × LT × LT} {bs : Int32} {M : MT} (hb : bs = ym_ms_samples M) (a : R1 0 T.1 M) (b : R1 1 T.2.1 M) (c : R1 2 T.2.2 M) (p0 : Rp (ym_m_past M) 0 (yl_plt T.1) (yl_po T.1) (yl_lou T.1)) (p1 : Rp (ym_m_past M) 1 (yl_plt T.2.1) (yl_po T.2.1) (yl_lou T.2.1)) (p2 : Rp (ym_m_past M) 2 (yl_plt T.2.2) (yl_po T.2.2) (yl_lou T.2.2)) (m0 : Im0 (yl_lmo T.1) (yl_lma T.1)) : Rel T bs M := by
  obtain ⟨ah_a1, ah_a2, ah_b, ah_deadTime, ah_load, ah_measure, ah_before, ah_low, ah_high, ah_setpoint, ah_integral, ah_guard, ah_share, ah_mode, ah_hand, ah_follows, ah_hasMaster, ah_isStarved, ah_held, ah_sum, ah_lastError, ah_lastRate, ah_experiment, ah_center, ah_height, ah_band, ah_isUp, ah_gone, ah_risings, ah_second, ah_greatest, ah_least, ah_period, ah_swing, ah_gkp, ah_gki, ah_gkd, ah_go, ah_sched, ah_i_lim, ah_i_gb, ah_i_md, ah_i_dt, ah_i_me, ah_i_st, ah_i_up, ah_i_gl, ah_i_sw, ah_i_rl⟩ := R1_iff.mp a
  obtain ⟨bh_a1, bh_a2, bh_b, bh_deadTime, bh_load, bh_measure, bh_before, bh_low, bh_high, bh_setpoint, bh_integral, bh_guard, bh_share, bh_mode, bh_hand, bh_follows, bh_hasMaster, bh_isStarved, bh_held, bh_sum, bh_lastError, bh_lastRate, bh_experiment, bh_center, bh_height, bh_band, bh_isUp, bh_gone, bh_risings, bh_second, bh_greatest, bh_least, bh_period, bh_swing, bh_gkp, bh_gki, bh_gkd, bh_go, bh_sched, bh_i_lim, bh_i_gb, bh_i_md, bh_i_dt, bh_i_me, bh_i_st, bh_i_up, bh_i_gl, bh_i_sw, bh_i_rl⟩ := R1_iff.mp b
  obtain ⟨ch_a1, ch_a2, ch_b, ch_deadTime, ch_load, ch_measure, ch_before, ch_low, ch_high, ch_setpoint, ch_integral, ch_guard, ch_share, ch_mode, ch_hand, ch_follows, ch_hasMaster, ch_isStarved, ch_held, ch_sum, ch_lastError, ch_lastRate, ch_experiment, ch_center, ch_height, ch_band, ch_isUp, ch_gone, ch_risings, ch_second, ch_greatest, ch_least, ch_period, ch_swing, ch_gkp, ch_gki, ch_gkd, ch_go, ch_sched, ch_i_lim, ch_i_gb, ch_i_md, ch_i_dt, ch_i_me, ch_i_st, ch_i_up, ch_i_gl, ch_i_sw, ch_i_rl⟩ := R1_iff.mp c
  exact Rel_iff.mpr ⟨hb, ⟨ah_a1, bh_a1, ch_a1⟩, ⟨ah_a2, bh_a2, ch_a2⟩, ⟨ah_b, bh_b, ch_b⟩, ⟨ah_deadTime, bh_deadTime, ch_deadTime⟩, ⟨ah_load, bh_load, ch_load⟩, ⟨ah_measure, bh_measure, ch_measure⟩, ⟨ah_before, bh_before, ch_before⟩, ⟨ah_low, bh_low, ch_low⟩, ⟨ah_high, bh_high, ch_high⟩, ⟨ah_setpoint, bh_setpoint, ch_setpoint⟩, ⟨ah_integral, bh_integral, ch_integral⟩, ⟨ah_guard, bh_guard, ch_guard⟩, ⟨ah_share, bh_share, ch_share⟩, ⟨ah_mode, bh_mode, ch_mode⟩, ⟨ah_hand, bh_hand, ch_hand⟩, ⟨ah_follows, bh_follows, ch_follows⟩, ⟨ah_hasMaster, bh_hasMaster, ch_hasMaster⟩, ⟨ah_isStarved, bh_isStarved, ch_isStarved⟩, ⟨ah_held, bh_held, ch_held⟩, ⟨ah_sum, bh_sum, ch_sum⟩, ⟨ah_lastError, bh_lastError, ch_lastError⟩, ⟨ah_lastRate, bh_lastRate, ch_lastRate⟩, ⟨ah_experiment, bh_experiment, ch_experiment⟩, ⟨ah_center, bh_center, ch_center⟩, ⟨ah_height, bh_height, ch_height⟩, ⟨ah_band, bh_band, ch_band⟩, ⟨ah_isUp, bh_isUp, ch_isUp⟩, ⟨ah_gone, bh_gone, ch_gone⟩, ⟨ah_risings, bh_risings, ch_risings⟩, ⟨ah_second, bh_second, ch_second⟩, ⟨ah_greatest, bh_greatest, ch_greatest⟩, ⟨ah_least, bh_least, ch_least⟩, ⟨ah_period, bh_period, ch_period⟩, ⟨ah_swing, bh_swing, ch_swing⟩, ⟨ah_gkp, ah_gki, ah_gkd, bh_gkp, bh_gki, bh_gkd, ch_gkp, ch_gki, ch_gkd⟩, ⟨p0, p1, p2⟩, ⟨ah_go, bh_go, ch_go⟩, ⟨ah_sched, bh_sched, ch_sched⟩, ⟨ah_i_lim, bh_i_lim, ch_i_lim⟩, ⟨ah_i_gb, bh_i_gb, ch_i_gb⟩, ⟨ah_i_md, bh_i_md, ch_i_md⟩, ⟨ah_i_dt, bh_i_dt, ch_i_dt⟩, ⟨ah_i_me, bh_i_me, ch_i_me⟩, ⟨ah_i_st, bh_i_st, ch_i_st⟩, ⟨ah_i_up, bh_i_up, ch_i_up⟩, ⟨ah_i_gl, bh_i_gl, ch_i_gl⟩, ⟨ah_i_sw, bh_i_sw, ch_i_sw⟩, ⟨ah_i_rl, bh_i_rl, ch_i_rl⟩, m0⟩
set_option maxHeartbeats 2000000 in
theorem rel_step {T : LT × LT × LT} {bs : Int32} {M : MT} (hR : Rel T bs M) : Rel (stepC T) (bs + 1) (stepM M) := by
  obtain ⟨A0, B0, C0⟩ := r1_of hR
  obtain ⟨h_bs, h_a1, h_a2, h_b, h_deadTime, h_load, h_measure, h_before, h_low, h_high, h_setpoint, h_integral, h_guard, h_share, h_mode, h_hand, h_follows, h_hasMaster, h_isStarved, h_held, h_sum, h_lastError, h_lastRate, h_experiment, h_center, h_height, h_band, h_isUp, h_gone, h_risings, h_second, h_greatest, h_least, h_period, h_swing, h_gain, h_past, h_go, h_sched, h_i_lim, h_i_gb, h_i_md, h_i_dt, h_i_me, h_i_st, h_i_up, h_i_gl, h_i_sw, h_i_rl, h_i_m0⟩ := Rel_iff.mp hR
  have t0 := turn_all (k := 0) (n := 0) (lou0 := (yl_ksp T.1)) (lw := 0) (ksp2 := (yl_ksp T.2.1)) (lmo2 := (yl_lmo T.2.1)) (lma2 := (yl_lma T.2.1)) (by decide) rfl A0 (fun q => absurd q h_i_m0.1) h_i_md.1 (by unfold f_X6_starves_j1_1; rw [if_neg (by decide)]; rw [show ym_m_hasMaster M ((0 : Int32) + (1 : Int32)).toNatClampNeg = (yl_lma T.2.1) from h_hasMaster.2.1, show ym_m_mode M ((0 : Int32) + (1 : Int32)).toNatClampNeg = (yl_lmo T.2.1) from h_mode.2.1]) (fun _ => ⟨h_setpoint.2.1, by decide⟩)
  rw [← tn0_eq] at t0
  obtain ⟨o0, A1⟩ := t0
  have B1 := turn_o (k := 0) (n := 0) (lw := 0) (j := 1) (by decide) rfl (by decide) B0
  have C1 := turn_o (k := 0) (n := 0) (lw := 0) (j := 2) (by decide) rfl (by decide) C0
  obtain ⟨ch_a1, ch_a2, ch_b, ch_deadTime, ch_load, ch_measure, ch_before, ch_low, ch_high, ch_setpoint, ch_integral, ch_guard, ch_share, ch_mode, ch_hand, ch_follows, ch_hasMaster, ch_isStarved, ch_held, ch_sum, ch_lastError, ch_lastRate, ch_experiment, ch_center, ch_height, ch_band, ch_isUp, ch_gone, ch_risings, ch_second, ch_greatest, ch_least, ch_period, ch_swing, ch_gkp, ch_gki, ch_gkd, ch_go, ch_sched, ch_i_lim, ch_i_gb, ch_i_md, ch_i_dt, ch_i_me, ch_i_st, ch_i_up, ch_i_gl, ch_i_sw, ch_i_rl⟩ := R1_iff.mp C1
  have t1 := turn_all (k := 1) (n := 1) (lou0 := yl_lou (tn0 T.1 (yl_lmo T.2.1) (yl_lma T.2.1) (yl_ksp T.2.1))) (lw := (pr 0 0 M)) (ksp2 := (yl_ksp T.2.2)) (lmo2 := (yl_lmo T.2.2)) (lma2 := (yl_lma T.2.2)) (by decide) rfl B1 (fun _ => o0) h_i_md.2.1 (by unfold f_X6_starves_j1_1; rw [if_neg (by decide)]; rw [show ym_m_hasMaster (pq 0 0 M) ((1 : Int32) + (1 : Int32)).toNatClampNeg = (yl_lma T.2.2) from ch_hasMaster, show ym_m_mode (pq 0 0 M) ((1 : Int32) + (1 : Int32)).toNatClampNeg = (yl_lmo T.2.2) from ch_mode]) (fun _ => ⟨ch_setpoint, by decide⟩)
  obtain ⟨o1, B2⟩ := t1
  have A2 := turn_o (k := 1) (n := 1) (lw := (pr 0 0 M)) (j := 0) (by decide) rfl (by decide) A1
  have C2 := turn_o (k := 1) (n := 1) (lw := (pr 0 0 M)) (j := 2) (by decide) rfl (by decide) C1
  have t2 := turn_all (k := 2) (n := 2) (lou0 := yl_lou (tn1 T.2.1 (yl_lou (tn0 T.1 (yl_lmo T.2.1) (yl_lma T.2.1) (yl_ksp T.2.1))) (yl_lmo T.2.2) (yl_lma T.2.2) (yl_ksp T.2.2))) (lw := (pr 1 (pr 0 0 M) (pq 0 0 M))) (ksp2 := 0) (lmo2 := 2) (lma2 := 0) (by decide) rfl C2 (fun _ => o1) h_i_md.2.2 (by unfold f_X6_starves_j1_1; rw [if_pos (by decide)]; rfl) (fun q => absurd (by unfold f_X6_starves_j1_1; rw [if_pos (by decide)]) q)
  rw [← tn2_eq] at t2
  obtain ⟨o2, C3⟩ := t2
  have A3 := turn_o (k := 2) (n := 2) (lw := (pr 1 (pr 0 0 M) (pq 0 0 M))) (j := 0) (by decide) rfl (by decide) A2
  have B3 := turn_o (k := 2) (n := 2) (lw := (pr 1 (pr 0 0 M) (pq 0 0 M))) (j := 1) (by decide) rfl (by decide) B2
  obtain ⟨f0, p0⟩ := plant_0 (ou := (yl_lou T.1)) A3 (by rw [tn0_plt, tn0_po]; exact h_past.1) o0
  obtain ⟨f1, p1⟩ := plant_1 (ou := (yl_lou T.2.1)) B3 (by rw [tn1_plt, tn1_po]; exact h_past.2.1) o1
  obtain ⟨f2, p2⟩ := plant_2 (ou := (yl_lou T.2.2)) C3 (by rw [tn2_plt, tn2_po]; exact h_past.2.2) o2
  rw [stepC_eq]
  exact r1_to (by rw [sq_samples, h_bs]) f0 f1 f2 p0 p1 p2 (by rw [gO_lmo, gO_lma, tn0_lma]; exact ⟨tn0_m h_i_m0.1, h_i_m0.2⟩)
theorem rel_thr {T : LT × LT × LT} {bs : Int32} {M : MT} (x : Int32) (hR : Rel T bs M) : Rel T bs (thrM M x) := by
  obtain ⟨h_bs, h_a1, h_a2, h_b, h_deadTime, h_load, h_measure, h_before, h_low, h_high, h_setpoint, h_integral, h_guard, h_share, h_mode, h_hand, h_follows, h_hasMaster, h_isStarved, h_held, h_sum, h_lastError, h_lastRate, h_experiment, h_center, h_height, h_band, h_isUp, h_gone, h_risings, h_second, h_greatest, h_least, h_period, h_swing, h_gain, h_past, h_go, h_sched, h_i_lim, h_i_gb, h_i_md, h_i_dt, h_i_me, h_i_st, h_i_up, h_i_gl, h_i_sw, h_i_rl, h_i_m0⟩ := Rel_iff.mp hR
  exact ⟨h_bs, h_a1, h_a2, h_b, h_deadTime, h_load, h_measure, h_before, h_low, h_high, h_setpoint, h_integral, h_guard, h_share, h_mode, h_hand, h_follows, h_hasMaster, h_isStarved, h_held, h_sum, h_lastError, h_lastRate, h_experiment, h_center, h_height, h_band, h_isUp, h_gone, h_risings, h_second, h_greatest, h_least, h_period, h_swing, h_gain, h_past, h_go, h_sched, h_i_lim, h_i_gb, h_i_md, h_i_dt, h_i_me, h_i_st, h_i_up, h_i_gl, h_i_sw, h_i_rl, h_i_m0⟩
theorem rel_iter {T : LT × LT × LT} {bs : Int32} {M : MT} (hR : Rel T bs M) : ∀ i : Nat, Rel (iterC i T) (bs + nI i) (iterM i M)
  | 0 => by
    show Rel T (bs + nI 0) M
    rw [show bs + nI 0 = bs from Int32.add_zero bs]
    exact hR
  | i + 1 => by
    show Rel (stepC (iterC i T)) (bs + nI (i + 1)) (stepM (iterM i M))
    rw [← nI_1, ← Int32.add_assoc]
    exact rel_step (rel_iter hR i)
theorem thr_iter {M : MT} : ∀ i : Nat, ym_ms_thrown (iterM i M) = ym_ms_thrown M
  | 0 => rfl
  | i + 1 => by
    show ym_ms_thrown (stepM (iterM i M)) = _
    rw [sq_ms_thrown]
    simp only [pg_ms_thrown]
    exact thr_iter i
theorem rel_run {T : LT × LT × LT} {bs : Int32} {M : MT} (hR : Rel T bs M) (ns : Int32) (uo : Nat → Int64) : rm_thrown (runM M ns) = lr_run ns ∧ (lr_run ns = 0 → lo_run uo bs ns (0 : Int32).toNatClampNeg = (runM_r M ns).toInt64) ∧ Rel (lu_run T ns) (lb_run bs ns) (runM M ns) := by
  by_cases h : f_X6_isIn_j1_1 ns (1 : Int32) (200 : Int32) = 0
  · have hx : ¬ f_X5_requireWithin_x ns (1 : Int32) (200 : Int32) = 0 := by rw [rw_eq, if_pos h]; decide
    have e1 : lr_run ns = 1 := if_neg hx
    have e2 : lu_run T ns = T := if_neg hx
    have e3 : lb_run bs ns = bs := if_neg hx
    have e4 : runM M ns = thrM M 1 := if_pos h
    rw [e1, e2, e3, e4]
    exact ⟨rfl, fun q => absurd q (by decide), rel_thr 1 hR⟩
  · have hx : f_X5_requireWithin_x ns (1 : Int32) (200 : Int32) = 0 := by rw [rw_eq, if_neg h]
    obtain ⟨hns, hN⟩ := ns_of (is_ok h)
    have e1 : lr_run ns = 0 := if_pos hx
    have e2 : lu_run T ns = iterC ns.toNatClampNeg T := if_pos hx
    have e3 : lb_run bs ns = bs + ns := if_pos hx
    have e4 : runM M ns = iterM ns.toNatClampNeg (thrM M 0) := if_neg h
    have e5 : runM_r M ns = ym_ms_samples (iterM ns.toNatClampNeg (thrM M 0)) := if_neg h
    have e6 : lo_run uo bs ns = vp_updL uo (0 : Int32).toNatClampNeg (bs + ns).toInt64 := if_pos hx
    have R := rel_iter (rel_thr 0 hR) ns.toNatClampNeg
    rw [← hns] at R
    rw [e1, e2, e3, e4, e5, e6, ul_eq]
    refine ⟨thr_iter _, fun _ => ?_, R⟩
    rw [← (Rel_iff.mp R).1]
theorem rel_ivC {T : LT × LT × LT} {bs : Int32} {M : MT} (hR : Rel T bs M) (ns : Int32) : ∀ i : Nat, i < ns.toNatClampNeg → ns.toNatClampNeg ≤ 200 → IvC (iterC i T) := by
  intro i _ _
  obtain ⟨h_bs, h_a1, h_a2, h_b, h_deadTime, h_load, h_measure, h_before, h_low, h_high, h_setpoint, h_integral, h_guard, h_share, h_mode, h_hand, h_follows, h_hasMaster, h_isStarved, h_held, h_sum, h_lastError, h_lastRate, h_experiment, h_center, h_height, h_band, h_isUp, h_gone, h_risings, h_second, h_greatest, h_least, h_period, h_swing, h_gain, h_past, h_go, h_sched, h_i_lim, h_i_gb, h_i_md, h_i_dt, h_i_me, h_i_st, h_i_up, h_i_gl, h_i_sw, h_i_rl, h_i_m0⟩ := Rel_iff.mp (rel_iter hR i)
  have f : ∀ {g : Nat → Int64} {k : Nat} {lt : Int32} {po : Nat → Int64} {ou : Int64} {d : Int32}, Rp g k lt po ou → Idt d → (∃ a : Nat, a < 11 ∧ lt = nI a) ∧ (∃ b : Nat, b < 11 ∧ d = nI b) := fun hp hd => by
    obtain ⟨a, ha, e, -⟩ := hp
    obtain ⟨b, hb, e2⟩ := hd
    exact ⟨⟨a, ha, e⟩, ⟨b, by omega, e2⟩⟩
  exact ⟨f h_past.1 h_i_dt.1, f h_past.2.1 h_i_dt.2.1, f h_past.2.2 h_i_dt.2.2⟩
theorem rel_hpt {T : LT × LT × LT} {bs : Int32} {M : MT} (hR : Rel T bs M) : ∀ k : Nat, k < 3 → ∃ j : Nat, j ≤ 5 ∧ ym_m_points M k = nI j := by
  obtain ⟨h_bs, h_a1, h_a2, h_b, h_deadTime, h_load, h_measure, h_before, h_low, h_high, h_setpoint, h_integral, h_guard, h_share, h_mode, h_hand, h_follows, h_hasMaster, h_isStarved, h_held, h_sum, h_lastError, h_lastRate, h_experiment, h_center, h_height, h_band, h_isUp, h_gone, h_risings, h_second, h_greatest, h_least, h_period, h_swing, h_gain, h_past, h_go, h_sched, h_i_lim, h_i_gb, h_i_md, h_i_dt, h_i_me, h_i_st, h_i_up, h_i_gl, h_i_sw, h_i_rl, h_i_m0⟩ := Rel_iff.mp hR
  intro k hk
  rcases (show k = 0 ∨ k = 1 ∨ k = 2 by omega) with rfl | rfl | rfl
  · obtain ⟨j, a, _, b, _⟩ := h_sched.1; exact ⟨j, a, b⟩
  · obtain ⟨j, a, _, b, _⟩ := h_sched.2.1; exact ⟨j, a, b⟩
  · obtain ⟨j, a, _, b, _⟩ := h_sched.2.2; exact ⟨j, a, b⟩
theorem rel_ivM {T : LT × LT × LT} {bs : Int32} {M : MT} (hR : Rel T bs M) (ns : Int32) : ∀ i : Nat, i < ns.toNatClampNeg → ns.toNatClampNeg ≤ 200 → IvM (iterM i (thrM M (0 : Int32))) := by
  intro i _ _
  have R := rel_iter (rel_thr 0 hR) i
  obtain ⟨h_bs, h_a1, h_a2, h_b, h_deadTime, h_load, h_measure, h_before, h_low, h_high, h_setpoint, h_integral, h_guard, h_share, h_mode, h_hand, h_follows, h_hasMaster, h_isStarved, h_held, h_sum, h_lastError, h_lastRate, h_experiment, h_center, h_height, h_band, h_isUp, h_gone, h_risings, h_second, h_greatest, h_least, h_period, h_swing, h_gain, h_past, h_go, h_sched, h_i_lim, h_i_gb, h_i_md, h_i_dt, h_i_me, h_i_st, h_i_up, h_i_gl, h_i_sw, h_i_rl, h_i_m0⟩ := Rel_iff.mp R
  refine ⟨rel_hpt R, ?_, wd_ne (k := 0) (by decide) rfl h_sched.1, wd_ne (k := 1) (by decide) rfl h_sched.2.1, wd_ne (k := 2) (by decide) rfl h_sched.2.2⟩
  intro k hk
  rcases (show k = 0 ∨ k = 1 ∨ k = 2 by omega) with rfl | rfl | rfl
  · obtain ⟨j, a, b⟩ := h_i_dt.1; exact ⟨j, a, h_deadTime.1.trans b⟩
  · obtain ⟨j, a, b⟩ := h_i_dt.2.1; exact ⟨j, a, h_deadTime.2.1.trans b⟩
  · obtain ⟨j, a, b⟩ := h_i_dt.2.2; exact ⟨j, a, h_deadTime.2.2.trans b⟩
theorem sw_le {x : Int64} (h : x.toInt ≤ 2000000) : x ≤ (2000000 : Int64) := by
  rw [fa_le64]
  have : (2000000 : Int64).toInt = 2000000 := rfl
  omega
theorem sw_ge {x : Int64} (h : 0 ≤ x.toInt) : (0 : Int64) ≤ x := by
  rw [fa_le64]
  have : (0 : Int64).toInt = 0 := rfl
  omega
theorem rel_hsw {T : LT × LT × LT} {bs : Int32} {M : MT} (hR : Rel T bs M) : (yl_rsw T.1) ≤ (2000000 : Int64) ∧ (yl_rsw T.2.1) ≤ (2000000 : Int64) ∧ (yl_rsw T.2.2) ≤ (2000000 : Int64) := by
  obtain ⟨h_bs, h_a1, h_a2, h_b, h_deadTime, h_load, h_measure, h_before, h_low, h_high, h_setpoint, h_integral, h_guard, h_share, h_mode, h_hand, h_follows, h_hasMaster, h_isStarved, h_held, h_sum, h_lastError, h_lastRate, h_experiment, h_center, h_height, h_band, h_isUp, h_gone, h_risings, h_second, h_greatest, h_least, h_period, h_swing, h_gain, h_past, h_go, h_sched, h_i_lim, h_i_gb, h_i_md, h_i_dt, h_i_me, h_i_st, h_i_up, h_i_gl, h_i_sw, h_i_rl, h_i_m0⟩ := Rel_iff.mp hR
  exact ⟨sw_le h_i_sw.1.2.1, sw_le h_i_sw.2.1.2.1, sw_le h_i_sw.2.2.2.1⟩
theorem rel_hsr {T : LT × LT × LT} {bs : Int32} {M : MT} (hR : Rel T bs M) : ∀ k : Nat, k < 3 → 0 ≤ ym_m_swing M k ∧ ym_m_swing M k ≤ (2000000 : Int64) := by
  obtain ⟨h_bs, h_a1, h_a2, h_b, h_deadTime, h_load, h_measure, h_before, h_low, h_high, h_setpoint, h_integral, h_guard, h_share, h_mode, h_hand, h_follows, h_hasMaster, h_isStarved, h_held, h_sum, h_lastError, h_lastRate, h_experiment, h_center, h_height, h_band, h_isUp, h_gone, h_risings, h_second, h_greatest, h_least, h_period, h_swing, h_gain, h_past, h_go, h_sched, h_i_lim, h_i_gb, h_i_md, h_i_dt, h_i_me, h_i_st, h_i_up, h_i_gl, h_i_sw, h_i_rl, h_i_m0⟩ := Rel_iff.mp hR
  intro k hk
  rcases (show k = 0 ∨ k = 1 ∨ k = 2 by omega) with rfl | rfl | rfl
  · rw [h_swing.1]; exact ⟨sw_ge h_i_sw.1.1, sw_le h_i_sw.1.2.1⟩
  · rw [h_swing.2.1]; exact ⟨sw_ge h_i_sw.2.1.1, sw_le h_i_sw.2.1.2.1⟩
  · rw [h_swing.2.2]; exact ⟨sw_ge h_i_sw.2.2.1, sw_le h_i_sw.2.2.2.1⟩
theorem st_nar {x : Int32} (h : Ist x) : narrow .boolean (.int x) = .int x := by rcases h with rfl | rfl <;> rfl
theorem rel_hzs {T : LT × LT × LT} {bs : Int32} {M : MT} (hR : Rel T bs M) : narrow .boolean (.int (yl_lst T.1)) = .int (yl_lst T.1) ∧ narrow .boolean (.int (yl_lst T.2.1)) = .int (yl_lst T.2.1) ∧ narrow .boolean (.int (yl_lst T.2.2)) = .int (yl_lst T.2.2) := by
  obtain ⟨h_bs, h_a1, h_a2, h_b, h_deadTime, h_load, h_measure, h_before, h_low, h_high, h_setpoint, h_integral, h_guard, h_share, h_mode, h_hand, h_follows, h_hasMaster, h_isStarved, h_held, h_sum, h_lastError, h_lastRate, h_experiment, h_center, h_height, h_band, h_isUp, h_gone, h_risings, h_second, h_greatest, h_least, h_period, h_swing, h_gain, h_past, h_go, h_sched, h_i_lim, h_i_gb, h_i_md, h_i_dt, h_i_me, h_i_st, h_i_up, h_i_gl, h_i_sw, h_i_rl, h_i_m0⟩ := Rel_iff.mp hR
  exact ⟨st_nar h_i_st.1, st_nar h_i_st.2.1, st_nar h_i_st.2.2⟩
theorem bz_nar (x : Int32) : vp_nar .boolean (bz x) = bz x := by unfold bz; split <;> rfl
