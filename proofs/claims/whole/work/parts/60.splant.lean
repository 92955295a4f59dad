theorem pjl_plt {lmo : Int32} {lha : Int64} {lfo : Int32} {lma : Int32} {lst : Int32} {lou : Int64} {pa1 : Int32} {pa2 : Int32} {pb : Int32} {pdt : Int32} {pld : Int32} {pme : Int64} {pmb : Int64} {plt : Int32} {po : (Nat → Int64)} {kp : Int32} {ki : Int32} {kd : Int32} {klo : Int32} {khi : Int32} {kgu : Int32} {ksh : Int32} {khe : Int32} {ksp : Int64} {kig : Int64} {ksu : Int64} {kle : Int64} {klr : Int64} {kgo : Int32} {sn : Int32} {gm : (Nat → Int32)} {gp : (Nat → Int32)} {gi : (Nat → Int32)} {gd : (Nat → Int32)} {rpr : Int32} {rpe : Int32} {rsw : Int64} {rce : Int64} {rhe : Int32} {rba : Int32} {rup : Int32} {rsa : Int32} {rri : Int32} {rse : Int32} {rgr : Int64} {rle : Int64} : yl_plt (lmo, lha, lfo, lma, lst, lou, pa1, pa2, pb, pdt, pld, pme, pmb, plt, po, kp, ki, kd, klo, khi, kgu, ksh, khe, ksp, kig, ksu, kle, klr, kgo, sn, gm, gp, gi, gd, rpr, rpe, rsw, rce, rhe, rba, rup, rsa, rri, rse, rgr, rle) = plt := rfl
theorem pjl_po {lmo : Int32} {lha : Int64} {lfo : Int32} {lma : Int32} {lst : Int32} {lou : Int64} {pa1 : Int32} {pa2 : Int32} {pb : Int32} {pdt : Int32} {pld : Int32} {pme : Int64} {pmb : Int64} {plt : Int32} {po : (Nat → Int64)} {kp : Int32} {ki : Int32} {kd : Int32} {klo : Int32} {khi : Int32} {kgu : Int32} {ksh : Int32} {khe : Int32} {ksp : Int64} {kig : Int64} {ksu : Int64} {kle : Int64} {klr : Int64} {kgo : Int32} {sn : Int32} {gm : (Nat → Int32)} {gp : (Nat → Int32)} {gi : (Nat → Int32)} {gd : (Nat → Int32)} {rpr : Int32} {rpe : Int32} {rsw : Int64} {rce : Int64} {rhe : Int32} {rba : Int32} {rup : Int32} {rsa : Int32} {rri : Int32} {rse : Int32} {rgr : Int64} {rle : Int64} : yl_po (lmo, lha, lfo, lma, lst, lou, pa1, pa2, pb, pdt, pld, pme, pmb, plt, po, kp, ki, kd, klo, khi, kgu, ksh, khe, ksp, kig, ksu, kle, klr, kgo, sn, gm, gp, gi, gd, rpr, rpe, rsw, rce, rhe, rba, rup, rsa, rri, rse, rgr, rle) = po := rfl
theorem pjl_lma {lmo : Int32} {lha : Int64} {lfo : Int32} {lma : Int32} {lst : Int32} {lou : Int64} {pa1 : Int32} {pa2 : Int32} {pb : Int32} {pdt : Int32} {pld : Int32} {pme : Int64} {pmb : Int64} {plt : Int32} {po : (Nat → Int64)} {kp : Int32} {ki : Int32} {kd : Int32} {klo : Int32} {khi : Int32} {kgu : Int32} {ksh : Int32} {khe : Int32} {ksp : Int64} {kig : Int64} {ksu : Int64} {kle : Int64} {klr : Int64} {kgo : Int32} {sn : Int32} {gm : (Nat → Int32)} {gp : (Nat → Int32)} {gi : (Nat → Int32)} {gd : (Nat → Int32)} {rpr : Int32} {rpe : Int32} {rsw : Int64} {rce : Int64} {rhe : Int32} {rba : Int32} {rup : Int32} {rsa : Int32} {rri : Int32} {rse : Int32} {rgr : Int64} {rle : Int64} : yl_lma (lmo, lha, lfo, lma, lst, lou, pa1, pa2, pb, pdt, pld, pme, pmb, plt, po, kp, ki, kd, klo, khi, kgu, ksh, khe, ksp, kig, ksu, kle, klr, kgo, sn, gm, gp, gi, gd, rpr, rpe, rsw, rce, rhe, rba, rup, rsa, rri, rse, rgr, rle) = lma := rfl
theorem pjl_lmo {lmo : Int32} {lha : Int64} {lfo : Int32} {lma : Int32} {lst : Int32} {lou : Int64} {pa1 : Int32} {pa2 : Int32} {pb : Int32} {pdt : Int32} {pld : Int32} {pme : Int64} {pmb : Int64} {plt : Int32} {po : (Nat → Int64)} {kp : Int32} {ki : Int32} {kd : Int32} {klo : Int32} {khi : Int32} {kgu : Int32} {ksh : Int32} {khe : Int32} {ksp : Int64} {kig : Int64} {ksu : Int64} {kle : Int64} {klr : Int64} {kgo : Int32} {sn : Int32} {gm : (Nat → Int32)} {gp : (Nat → Int32)} {gi : (Nat → Int32)} {gd : (Nat → Int32)} {rpr : Int32} {rpe : Int32} {rsw : Int64} {rce : Int64} {rhe : Int32} {rba : Int32} {rup : Int32} {rsa : Int32} {rri : Int32} {rse : Int32} {rgr : Int64} {rle : Int64} : yl_lmo (lmo, lha, lfo, lma, lst, lou, pa1, pa2, pb, pdt, pld, pme, pmb, plt, po, kp, ki, kd, klo, khi, kgu, ksh, khe, ksp, kig, ksu, kle, klr, kgo, sn, gm, gp, gi, gd, rpr, rpe, rsw, rce, rhe, rba, rup, rsa, rri, rse, rgr, rle) = lmo := rfl
theorem pjl_pme {lmo : Int32} {lha : Int64} {lfo : Int32} {lma : Int32} {lst : Int32} {lou : Int64} {pa1 : Int32} {pa2 : Int32} {pb : Int32} {pdt : Int32} {pld : Int32} {pme : Int64} {pmb : Int64} {plt : Int32} {po : (Nat → Int64)} {kp : Int32} {ki : Int32} {kd : Int32} {klo : Int32} {khi : Int32} {kgu : Int32} {ksh : Int32} {khe : Int32} {ksp : Int64} {kig : Int64} {ksu : Int64} {kle : Int64} {klr : Int64} {kgo : Int32} {sn : Int32} {gm : (Nat → Int32)} {gp : (Nat → Int32)} {gi : (Nat → Int32)} {gd : (Nat → Int32)} {rpr : Int32} {rpe : Int32} {rsw : Int64} {rce : Int64} {rhe : Int32} {rba : Int32} {rup : Int32} {rsa : Int32} {rri : Int32} {rse : Int32} {rgr : Int64} {rle : Int64} : yl_pme (lmo, lha, lfo, lma, lst, lou, pa1, pa2, pb, pdt, pld, pme, pmb, plt, po, kp, ki, kd, klo, khi, kgu, ksh, khe, ksp, kig, ksu, kle, klr, kgo, sn, gm, gp, gi, gd, rpr, rpe, rsw, rce, rhe, rba, rup, rsa, rri, rse, rgr, rle) = pme := rfl
theorem pjl_lou {lmo : Int32} {lha : Int64} {lfo : Int32} {lma : Int32} {lst : Int32} {lou : Int64} {pa1 : Int32} {pa2 : Int32} {pb : Int32} {pdt : Int32} {pld : Int32} {pme : Int64} {pmb : Int64} {plt : Int32} {po : (Nat → Int64)} {kp : Int32} {ki : Int32} {kd : Int32} {klo : Int32} {khi : Int32} {kgu : Int32} {ksh : Int32} {khe : Int32} {ksp : Int64} {kig : Int64} {ksu : Int64} {kle : Int64} {klr : Int64} {kgo : Int32} {sn : Int32} {gm : (Nat → Int32)} {gp : (Nat → Int32)} {gi : (Nat → Int32)} {gd : (Nat → Int32)} {rpr : Int32} {rpe : Int32} {rsw : Int64} {rce : Int64} {rhe : Int32} {rba : Int32} {rup : Int32} {rsa : Int32} {rri : Int32} {rse : Int32} {rgr : Int64} {rle : Int64} : yl_lou (lmo, lha, lfo, lma, lst, lou, pa1, pa2, pb, pdt, pld, pme, pmb, plt, po, kp, ki, kd, klo, khi, kgu, ksh, khe, ksp, kig, ksu, kle, klr, kgo, sn, gm, gp, gi, gd, rpr, rpe, rsw, rce, rhe, rba, rup, rsa, rri, rse, rgr, rle) = lou := rfl
theorem tn0_plt (s : LT) (x y : Int32) (z : Int64) : yl_plt (tn0 s x y z) = yl_plt s := pjl_plt
theorem tn1_plt (s : LT) (w : Int64) (x y : Int32) (z : Int64) : yl_plt (tn1 s w x y z) = yl_plt s := pjl_plt
theorem tn2_plt (s : LT) (w : Int64) : yl_plt (tn2 s w) = yl_plt s := pjl_plt
theorem tn0_po (s : LT) (x y : Int32) (z : Int64) : yl_po (tn0 s x y z) = yl_po s := pjl_po
theorem tn1_po (s : LT) (w : Int64) (x y : Int32) (z : Int64) : yl_po (tn1 s w x y z) = yl_po s := pjl_po
theorem tn2_po (s : LT) (w : Int64) : yl_po (tn2 s w) = yl_po s := pjl_po
theorem tn0_lma (s : LT) (x y : Int32) (z : Int64) : yl_lma (tn0 s x y z) = yl_lma s := pjl_lma
theorem gO_plt (s : LT) : yl_plt (gOn s) = f_X2_goOn_plt (yl_plt s) := pjl_plt
theorem gO_po (s : LT) : yl_po (gOn s) = f_X2_goOn_po (yl_plt s) (yl_po s) (yl_lou s) := pjl_po
theorem gO_lou (s : LT) : yl_lou (gOn s) = yl_lou s := pjl_lou
theorem gO_lma (s : LT) : yl_lma (gOn s) = yl_lma s := pjl_lma
theorem gO_lmo (s : LT) : yl_lmo (gOn s) = yl_lmo s := pjl_lmo
set_option maxHeartbeats 1000000 in
theorem plant_0 {s : LT} {M : MT} {ou : Int64} (hR : R1 0 s (pq 2 (pr 1 (pr 0 0 M) (pq 0 0 M)) (pq 1 (pr 0 0 M) (pq 0 0 M)))) (hp : Rp (ym_m_past M) 0 (yl_plt s) (yl_po s) ou) (ho : (pr 0 0 M) = yl_lou s) : R1 0 (gOn s) (stepM M) ∧ Rp (ym_m_past (stepM M)) 0 (yl_plt (gOn s)) (yl_po (gOn s)) (yl_lou (gOn s)) := by
  obtain ⟨h_a1, h_a2, h_b, h_deadTime, h_load, h_measure, h_before, h_low, h_high, h_setpoint, h_integral, h_guard, h_share, h_mode, h_hand, h_follows, h_hasMaster, h_isStarved, h_held, h_sum, h_lastError, h_lastRate, h_experiment, h_center, h_height, h_band, h_isUp, h_gone, h_risings, h_second, h_greatest, h_least, h_period, h_swing, h_gkp, h_gki, h_gkd, h_go, h_sched, h_i_lim, h_i_gb, h_i_md, h_i_dt, h_i_me, h_i_st, h_i_up, h_i_gl, h_i_sw, h_i_rl⟩ := R1_iff.mp hR
  have q_a1 := h_a1
  simp only [pg_m_a1] at q_a1
  have q_a2 := h_a2
  simp only [pg_m_a2] at q_a2
  have q_b := h_b
  simp only [pg_m_b] at q_b
  have q_deadTime := h_deadTime
  simp only [pg_m_deadTime] at q_deadTime
  have q_load := h_load
  simp only [pg_m_load] at q_load
  have q_measure := h_measure
  simp only [pg_m_measure] at q_measure
  have q_before := h_before
  simp only [pg_m_before] at q_before
  have h0 : ym_m_past (stepM M) (11 * 0) = yl_lou s := (sp_0 M).trans ho
  have hs : ∀ i : Nat, i < 10 → ym_m_past (stepM M) (11 * 0 + (i + 1)) = ym_m_past M (11 * 0 + i) := by
    intro i hi
    rcases (show i = 0 ∨ i = 1 ∨ i = 2 ∨ i = 3 ∨ i = 4 ∨ i = 5 ∨ i = 6 ∨ i = 7 ∨ i = 8 ∨ i = 9 by omega) with rfl | rfl | rfl | rfl | rfl | rfl | rfl | rfl | rfl | rfl
    · exact sp_1 M
    · exact sp_2 M
    · exact sp_3 M
    · exact sp_4 M
    · exact sp_5 M
    · exact sp_6 M
    · exact sp_7 M
    · exact sp_8 M
    · exact sp_9 M
    · exact sp_10 M
  obtain ⟨g1, g2⟩ := ring hp h0 hs
  obtain ⟨d, hd, ed⟩ := h_i_dt
  have hx : ((0 : Int32) + (ym_m_deadTime M 0)).toNatClampNeg = 11 * 0 + d := by rw [q_deadTime, ed]; exact xd_0 ⟨d, by omega⟩
  have hw : f_X2_goOn_pme (yl_pa1 s) (yl_pa2 s) (yl_pb s) (yl_pdt s) (yl_pld s) (yl_pme s) (yl_pmb s) (yl_plt s) (yl_po s) (yl_lou s) = ym_m_measure (stepM M) 0 := by
    rw [sm_0, hx, ← g2 d hd]
    unfold f_X2_goOn_pme
    rw [hw_eq (by decide), fd_eq, q_a1, q_a2, q_b, q_load, q_measure, q_before, ed]
  have hme : Ime (ym_m_measure (stepM M) 0) := by rw [sm_0]; exact wi_b (by decide)
  refine ⟨⟨(congrFun (ps_m_a1 M).symm 0).trans ((congrFun (sq_m_a1 M) 0).trans h_a1), (congrFun (ps_m_a2 M).symm 0).trans ((congrFun (sq_m_a2 M) 0).trans h_a2), (congrFun (ps_m_b M).symm 0).trans ((congrFun (sq_m_b M) 0).trans h_b), (congrFun (ps_m_deadTime M).symm 0).trans ((congrFun (sq_m_deadTime M) 0).trans h_deadTime), (congrFun (ps_m_load M).symm 0).trans ((congrFun (sq_m_load M) 0).trans h_load), (congrFun (ps_m_measure M).symm 0).trans hw.symm, (congrFun (ps_m_before M).symm 0).trans ((sb_0 M).trans q_measure), (congrFun (ps_m_low M).symm 0).trans ((congrFun (sq_m_low M) 0).trans h_low), (congrFun (ps_m_high M).symm 0).trans ((congrFun (sq_m_high M) 0).trans h_high), (congrFun (ps_m_setpoint M).symm 0).trans ((congrFun (sq_m_setpoint M) 0).trans h_setpoint), (congrFun (ps_m_integral M).symm 0).trans ((congrFun (sq_m_integral M) 0).trans h_integral), (congrFun (ps_m_guard M).symm 0).trans ((congrFun (sq_m_guard M) 0).trans h_guard), (congrFun (ps_m_share M).symm 0).trans ((congrFun (sq_m_share M) 0).trans h_share), (congrFun (ps_m_mode M).symm 0).trans ((congrFun (sq_m_mode M) 0).trans h_mode), (congrFun (ps_m_hand M).symm 0).trans ((congrFun (sq_m_hand M) 0).trans h_hand), (congrFun (ps_m_follows M).symm 0).trans ((congrFun (sq_m_follows M) 0).trans h_follows), (congrFun (ps_m_hasMaster M).symm 0).trans ((congrFun (sq_m_hasMaster M) 0).trans h_hasMaster), (congrFun (ps_m_isStarved M).symm 0).trans ((congrFun (sq_m_isStarved M) 0).trans h_isStarved), (congrFun (ps_m_held M).symm 0).trans ((congrFun (sq_m_held M) 0).trans h_held), (congrFun (ps_m_sum M).symm 0).trans ((congrFun (sq_m_sum M) 0).trans h_sum), (congrFun (ps_m_lastError M).symm 0).trans ((congrFun (sq_m_lastError M) 0).trans h_lastError), (congrFun (ps_m_lastRate M).symm 0).trans ((congrFun (sq_m_lastRate M) 0).trans h_lastRate), (congrFun (ps_m_experiment M).symm 0).trans ((congrFun (sq_m_experiment M) 0).trans h_experiment), (congrFun (ps_m_center M).symm 0).trans ((congrFun (sq_m_center M) 0).trans h_center), (congrFun (ps_m_height M).symm 0).trans ((congrFun (sq_m_height M) 0).trans h_height), (congrFun (ps_m_band M).symm 0).trans ((congrFun (sq_m_band M) 0).trans h_band), (congrFun (ps_m_isUp M).symm 0).trans ((congrFun (sq_m_isUp M) 0).trans h_isUp), (congrFun (ps_m_gone M).symm 0).trans ((congrFun (sq_m_gone M) 0).trans h_gone), (congrFun (ps_m_risings M).symm 0).trans ((congrFun (sq_m_risings M) 0).trans h_risings), (congrFun (ps_m_second M).symm 0).trans ((congrFun (sq_m_second M) 0).trans h_second), (congrFun (ps_m_greatest M).symm 0).trans ((congrFun (sq_m_greatest M) 0).trans h_greatest), (congrFun (ps_m_least M).symm 0).trans ((congrFun (sq_m_least M) 0).trans h_least), (congrFun (ps_m_period M).symm 0).trans ((congrFun (sq_m_period M) 0).trans h_period), (congrFun (ps_m_swing M).symm 0).trans ((congrFun (sq_m_swing M) 0).trans h_swing), (congrFun (ps_m_gain M).symm _).trans ((congrFun (sq_m_gain M) _).trans h_gkp), (congrFun (ps_m_gain M).symm _).trans ((congrFun (sq_m_gain M) _).trans h_gki), (congrFun (ps_m_gain M).symm _).trans ((congrFun (sq_m_gain M) _).trans h_gkd), fun h => (congrFun (ps_m_goesOn M).symm 0).trans ((congrFun (sq_m_goesOn M) 0).trans (h_go h)), by have e := h_sched; rw [← sq_m_points, ← sq_m_at, ← sq_m_then, ps_m_points, ps_m_at, ps_m_then] at e; exact e, h_i_lim, h_i_gb, h_i_md, ⟨d, hd, ed⟩, by rw [← hw] at hme; exact hme, h_i_st, h_i_up, h_i_gl, h_i_sw, h_i_rl⟩, ?_⟩
  rw [gO_plt, gO_po, gO_lou]
  exact g1
set_option maxHeartbeats 1000000 in
theorem plant_1 {s : LT} {M : MT} {ou : Int64} (hR : R1 1 s (pq 2 (pr 1 (pr 0 0 M) (pq 0 0 M)) (pq 1 (pr 0 0 M) (pq 0 0 M)))) (hp : Rp (ym_m_past M) 1 (yl_plt s) (yl_po s) ou) (ho : (pr 1 (pr 0 0 M) (pq 0 0 M)) = yl_lou s) : R1 1 (gOn s) (stepM M) ∧ Rp (ym_m_past (stepM M)) 1 (yl_plt (gOn s)) (yl_po (gOn s)) (yl_lou (gOn s)) := by
  obtain ⟨h_a1, h_a2, h_b, h_deadTime, h_load, h_measure, h_before, h_low, h_high, h_setpoint, h_integral, h_guard, h_share, h_mode, h_hand, h_follows, h_hasMaster, h_isStarved, h_held, h_sum, h_lastError, h_lastRate, h_experiment, h_center, h_height, h_band, h_isUp, h_gone, h_risings, h_second, h_greatest, h_least, h_period, h_swing, h_gkp, h_gki, h_gkd, h_go, h_sched, h_i_lim, h_i_gb, h_i_md, h_i_dt, h_i_me, h_i_st, h_i_up, h_i_gl, h_i_sw, h_i_rl⟩ := R1_iff.mp hR
  have q_a1 := h_a1
  simp only [pg_m_a1] at q_a1
  have q_a2 := h_a2
  simp only [pg_m_a2] at q_a2
  have q_b := h_b
  simp only [pg_m_b] at q_b
  have q_deadTime := h_deadTime
  simp only [pg_m_deadTime] at q_deadTime
  have q_load := h_load
  simp only [pg_m_load] at q_load
  have q_measure := h_measure
  simp only [pg_m_measure] at q_measure
  have q_before := h_before
  simp only [pg_m_before] at q_before
  have h0 : ym_m_past (stepM M) (11 * 1) = yl_lou s := (sp_11 M).trans ho
  have hs : ∀ i : Nat, i < 10 → ym_m_past (stepM M) (11 * 1 + (i + 1)) = ym_m_past M (11 * 1 + i) := by
    intro i hi
    rcases (show i = 0 ∨ i = 1 ∨ i = 2 ∨ i = 3 ∨ i = 4 ∨ i = 5 ∨ i = 6 ∨ i = 7 ∨ i = 8 ∨ i = 9 by omega) with rfl | rfl | rfl | rfl | rfl | rfl | rfl | rfl | rfl | rfl
    · exact sp_12 M
    · exact sp_13 M
    · exact sp_14 M
    · exact sp_15 M
    · exact sp_16 M
    · exact sp_17 M
    · exact sp_18 M
    · exact sp_19 M
    · exact sp_20 M
    · exact sp_21 M
  obtain ⟨g1, g2⟩ := ring hp h0 hs
  obtain ⟨d, hd, ed⟩ := h_i_dt
  have hx : ((11 : Int32) + (ym_m_deadTime M 1)).toNatClampNeg = 11 * 1 + d := by rw [q_deadTime, ed]; exact xd_1 ⟨d, by omega⟩
  have hw : f_X2_goOn_pme (yl_pa1 s) (yl_pa2 s) (yl_pb s) (yl_pdt s) (yl_pld s) (yl_pme s) (yl_pmb s) (yl_plt s) (yl_po s) (yl_lou s) = ym_m_measure (stepM M) 1 := by
    rw [sm_1, hx, ← g2 d hd]
    unfold f_X2_goOn_pme
    rw [hw_eq (by decide), fd_eq, q_a1, q_a2, q_b, q_load, q_measure, q_before, ed]
  have hme : Ime (ym_m_measure (stepM M) 1) := by rw [sm_1]; exact wi_b (by decide)
  refine ⟨⟨(congrFun (ps_m_a1 M).symm 1).trans ((congrFun (sq_m_a1 M) 1).trans h_a1), (congrFun (ps_m_a2 M).symm 1).trans ((congrFun (sq_m_a2 M) 1).trans h_a2), (congrFun (ps_m_b M).symm 1).trans ((congrFun (sq_m_b M) 1).trans h_b), (congrFun (ps_m_deadTime M).symm 1).trans ((congrFun (sq_m_deadTime M) 1).trans h_deadTime), (congrFun (ps_m_load M).symm 1).trans ((congrFun (sq_m_load M) 1).trans h_load), (congrFun (ps_m_measure M).symm 1).trans hw.symm, (congrFun (ps_m_before M).symm 1).trans ((sb_1 M).trans q_measure), (congrFun (ps_m_low M).symm 1).trans ((congrFun (sq_m_low M) 1).trans h_low), (congrFun (ps_m_high M).symm 1).trans ((congrFun (sq_m_high M) 1).trans h_high), (congrFun (ps_m_setpoint M).symm 1).trans ((congrFun (sq_m_setpoint M) 1).trans h_setpoint), (congrFun (ps_m_integral M).symm 1).trans ((congrFun (sq_m_integral M) 1).trans h_integral), (congrFun (ps_m_guard M).symm 1).trans ((congrFun (sq_m_guard M) 1).trans h_guard), (congrFun (ps_m_share M).symm 1).trans ((congrFun (sq_m_share M) 1).trans h_share), (congrFun (ps_m_mode M).symm 1).trans ((congrFun (sq_m_mode M) 1).trans h_mode), (congrFun (ps_m_hand M).symm 1).trans ((congrFun (sq_m_hand M) 1).trans h_hand), (congrFun (ps_m_follows M).symm 1).trans ((congrFun (sq_m_follows M) 1).trans h_follows), (congrFun (ps_m_hasMaster M).symm 1).trans ((congrFun (sq_m_hasMaster M) 1).trans h_hasMaster), (congrFun (ps_m_isStarved M).symm 1).trans ((congrFun (sq_m_isStarved M) 1).trans h_isStarved), (congrFun (ps_m_held M).symm 1).trans ((congrFun (sq_m_held M) 1).trans h_held), (congrFun (ps_m_sum M).symm 1).trans ((congrFun (sq_m_sum M) 1).trans h_sum), (congrFun (ps_m_lastError M).symm 1).trans ((congrFun (sq_m_lastError M) 1).trans h_lastError), (congrFun (ps_m_lastRate M).symm 1).trans ((congrFun (sq_m_lastRate M) 1).trans h_lastRate), (congrFun (ps_m_experiment M).symm 1).trans ((congrFun (sq_m_experiment M) 1).trans h_experiment), (congrFun (ps_m_center M).symm 1).trans ((congrFun (sq_m_center M) 1).trans h_center), (congrFun (ps_m_height M).symm 1).trans ((congrFun (sq_m_height M) 1).trans h_height), (congrFun (ps_m_band M).symm 1).trans ((congrFun (sq_m_band M) 1).trans h_band), (congrFun (ps_m_isUp M).symm 1).trans ((congrFun (sq_m_isUp M) 1).trans h_isUp), (congrFun (ps_m_gone M).symm 1).trans ((congrFun (sq_m_gone M) 1).trans h_gone), (congrFun (ps_m_risings M).symm 1).trans ((congrFun (sq_m_risings M) 1).trans h_risings), (congrFun (ps_m_second M).symm 1).trans ((congrFun (sq_m_second M) 1).trans h_second), (congrFun (ps_m_greatest M).symm 1).trans ((congrFun (sq_m_greatest M) 1).trans h_greatest), (congrFun (ps_m_least M).symm 1).trans ((congrFun (sq_m_least M) 1).trans h_least), (congrFun (ps_m_period M).symm 1).trans ((congrFun (sq_m_period M) 1).trans h_period), (congrFun (ps_m_swing M).symm 1).trans ((congrFun (sq_m_swing M) 1).trans h_swing), (congrFun (ps_m_gain M).symm _).trans ((congrFun (sq_m_gain M) _).trans h_gkp), (congrFun (ps_m_gain M).symm _).trans ((congrFun (sq_m_gain M) _).trans h_gki), (congrFun (ps_m_gain M).symm _).trans ((congrFun (sq_m_gain M) _).trans h_gkd), fun h => (congrFun (ps_m_goesOn M).symm 1).trans ((congrFun (sq_m_goesOn M) 1).trans (h_go h)), by have e := h_sched; rw [← sq_m_points, ← sq_m_at, ← sq_m_then, ps_m_points, ps_m_at, ps_m_then] at e; exact e, h_i_lim, h_i_gb, h_i_md, ⟨d, hd, ed⟩, by rw [← hw] at hme; exact hme, h_i_st, h_i_up, h_i_gl, h_i_sw, h_i_rl⟩, ?_⟩
  rw [gO_plt, gO_po, gO_lou]
  exact g1
set_option maxHeartbeats 1000000 in
theorem plant_2 {s : LT} {M : MT} {ou : Int64} (hR : R1 2 s (pq 2 (pr 1 (pr 0 0 M) (pq 0 0 M)) (pq 1 (pr 0 0 M) (pq 0 0 M)))) (hp : Rp (ym_m_past M) 2 (yl_plt s) (yl_po s) ou) (ho : (pr 2 (pr 1 (pr 0 0 M) (pq 0 0 M)) (pq 1 (pr 0 0 M) (pq 0 0 M))) = yl_lou s) : R1 2 (gOn s) (stepM M) ∧ Rp (ym_m_past (stepM M)) 2 (yl_plt (gOn s)) (yl_po (gOn s)) (yl_lou (gOn s)) := by
  obtain ⟨h_a1, h_a2, h_b, h_deadTime, h_load, h_measure, h_before, h_low, h_high, h_setpoint, h_integral, h_guard, h_share, h_mode, h_hand, h_follows, h_hasMaster, h_isStarved, h_held, h_sum, h_lastError, h_lastRate, h_experiment, h_center, h_height, h_band, h_isUp, h_gone, h_risings, h_second, h_greatest, h_least, h_period, h_swing, h_gkp, h_gki, h_gkd, h_go, h_sched, h_i_lim, h_i_gb, h_i_md, h_i_dt, h_i_me, h_i_st, h_i_up, h_i_gl, h_i_sw, h_i_rl⟩ := R1_iff.mp hR
  have q_a1 := h_a1
  simp only [pg_m_a1] at q_a1
  have q_a2 := h_a2
  simp only [pg_m_a2] at q_a2
  have q_b := h_b
  simp only [pg_m_b] at q_b
  have q_deadTime := h_deadTime
  simp only [pg_m_deadTime] at q_deadTime
  have q_load := h_load
  simp only [pg_m_load] at q_load
  have q_measure := h_measure
  simp only [pg_m_measure] at q_measure
  have q_before := h_before
  simp only [pg_m_before] at q_before
  have h0 : ym_m_past (stepM M) (11 * 2) = yl_lou s := (sp_22 M).trans ho
  have hs : ∀ i : Nat, i < 10 → ym_m_past (stepM M) (11 * 2 + (i + 1)) = ym_m_past M (11 * 2 + i) := by
    intro i hi
    rcases (show i = 0 ∨ i = 1 ∨ i = 2 ∨ i = 3 ∨ i = 4 ∨ i = 5 ∨ i = 6 ∨ i = 7 ∨ i = 8 ∨ i = 9 by omega) with rfl | rfl | rfl | rfl | rfl | rfl | rfl | rfl | rfl | rfl
    · exact sp_23 M
    · exact sp_24 M
    · exact sp_25 M
    · exact sp_26 M
    · exact sp_27 M
    · exact sp_28 M
    · exact sp_29 M
    · exact sp_30 M
    · exact sp_31 M
    · exact sp_32 M
  obtain ⟨g1, g2⟩ := ring hp h0 hs
  obtain ⟨d, hd, ed⟩ := h_i_dt
  have hx : ((22 : Int32) + (ym_m_deadTime M 2)).toNatClampNeg = 11 * 2 + d := by rw [q_deadTime, ed]; exact xd_2 ⟨d, by omega⟩
  have hw : f_X2_goOn_pme (yl_pa1 s) (yl_pa2 s) (yl_pb s) (yl_pdt s) (yl_pld s) (yl_pme s) (yl_pmb s) (yl_plt s) (yl_po s) (yl_lou s) = ym_m_measure (stepM M) 2 := by
    rw [sm_2, hx, ← g2 d hd]
    unfold f_X2_goOn_pme
    rw [hw_eq (by decide), fd_eq, q_a1, q_a2, q_b, q_load, q_measure, q_before, ed]
  have hme : Ime (ym_m_measure (stepM M) 2) := by rw [sm_2]; exact wi_b (by decide)
  refine ⟨⟨(congrFun (ps_m_a1 M).symm 2).trans ((congrFun (sq_m_a1 M) 2).trans h_a1), (congrFun (ps_m_a2 M).symm 2).trans ((congrFun (sq_m_a2 M) 2).trans h_a2), (congrFun (ps_m_b M).symm 2).trans ((congrFun (sq_m_b M) 2).trans h_b), (congrFun (ps_m_deadTime M).symm 2).trans ((congrFun (sq_m_deadTime M) 2).trans h_deadTime), (congrFun (ps_m_load M).symm 2).trans ((congrFun (sq_m_load M) 2).trans h_load), (congrFun (ps_m_measure M).symm 2).trans hw.symm, (congrFun (ps_m_before M).symm 2).trans ((sb_2 M).trans q_measure), (congrFun (ps_m_low M).symm 2).trans ((congrFun (sq_m_low M) 2).trans h_low), (congrFun (ps_m_high M).symm 2).trans ((congrFun (sq_m_high M) 2).trans h_high), (congrFun (ps_m_setpoint M).symm 2).trans ((congrFun (sq_m_setpoint M) 2).trans h_setpoint), (congrFun (ps_m_integral M).symm 2).trans ((congrFun (sq_m_integral M) 2).trans h_integral), (congrFun (ps_m_guard M).symm 2).trans ((congrFun (sq_m_guard M) 2).trans h_guard), (congrFun (ps_m_share M).symm 2).trans ((congrFun (sq_m_share M) 2).trans h_share), (congrFun (ps_m_mode M).symm 2).trans ((congrFun (sq_m_mode M) 2).trans h_mode), (congrFun (ps_m_hand M).symm 2).trans ((congrFun (sq_m_hand M) 2).trans h_hand), (congrFun (ps_m_follows M).symm 2).trans ((congrFun (sq_m_follows M) 2).trans h_follows), (congrFun (ps_m_hasMaster M).symm 2).trans ((congrFun (sq_m_hasMaster M) 2).trans h_hasMaster), (congrFun (ps_m_isStarved M).symm 2).trans ((congrFun (sq_m_isStarved M) 2).trans h_isStarved), (congrFun (ps_m_held M).symm 2).trans ((congrFun (sq_m_held M) 2).trans h_held), (congrFun (ps_m_sum M).symm 2).trans ((congrFun (sq_m_sum M) 2).trans h_sum), (congrFun (ps_m_lastError M).symm 2).trans ((congrFun (sq_m_lastError M) 2).trans h_lastError), (congrFun (ps_m_lastRate M).symm 2).trans ((congrFun (sq_m_lastRate M) 2).trans h_lastRate), (congrFun (ps_m_experiment M).symm 2).trans ((congrFun (sq_m_experiment M) 2).trans h_experiment), (congrFun (ps_m_center M).symm 2).trans ((congrFun (sq_m_center M) 2).trans h_center), (congrFun (ps_m_height M).symm 2).trans ((congrFun (sq_m_height M) 2).trans h_height), (congrFun (ps_m_band M).symm 2).trans ((congrFun (sq_m_band M) 2).trans h_band), (congrFun (ps_m_isUp M).symm 2).trans ((congrFun (sq_m_isUp M) 2).trans h_isUp), (congrFun (ps_m_gone M).symm 2).trans ((congrFun (sq_m_gone M) 2).trans h_gone), (congrFun (ps_m_risings M).symm 2).trans ((congrFun (sq_m_risings M) 2).trans h_risings), (congrFun (ps_m_second M).symm 2).trans ((congrFun (sq_m_second M) 2).trans h_second), (congrFun (ps_m_greatest M).symm 2).trans ((congrFun (sq_m_greatest M) 2).trans h_greatest), (congrFun (ps_m_least M).symm 2).trans ((congrFun (sq_m_least M) 2).trans h_least), (congrFun (ps_m_period M).symm 2).trans ((congrFun (sq_m_period M) 2).trans h_period), (congrFun (ps_m_swing M).symm 2).trans ((congrFun (sq_m_swing M) 2).trans h_swing), (congrFun (ps_m_gain M).symm _).trans ((congrFun (sq_m_gain M) _).trans h_gkp), (congrFun (ps_m_gain M).symm _).trans ((congrFun (sq_m_gain M) _).trans h_gki), (congrFun (ps_m_gain M).symm _).trans ((congrFun (sq_m_gain M) _).trans h_gkd), fun h => (congrFun (ps_m_goesOn M).symm 2).trans ((congrFun (sq_m_goesOn M) 2).trans (h_go h)), by have e := h_sched; rw [← sq_m_points, ← sq_m_at, ← sq_m_then, ps_m_points, ps_m_at, ps_m_then] at e; exact e, h_i_lim, h_i_gb, h_i_md, ⟨d, hd, ed⟩, by rw [← hw] at hme; exact hme, h_i_st, h_i_up, h_i_gl, h_i_sw, h_i_rl⟩, ?_⟩
  rw [gO_plt, gO_po, gO_lou]
  exact g1
