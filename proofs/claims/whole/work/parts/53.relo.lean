theorem pl_ok {a1v a2v bv dtv : Int32} (hc : f_X5_setPlant_x a1v a2v bv dtv = 0) : Idt dtv := by
  unfold f_X5_setPlant_x at hc
  simp only [rw_eq] at hc
  by_cases a : f_X6_isIn_j1_1 a1v (-2000 : Int32) (2000 : Int32) = 0
  · simp [a] at hc
  by_cases b : f_X6_isIn_j1_1 a2v (-1000 : Int32) (1000 : Int32) = 0
  · simp [a, b] at hc
  by_cases c : f_X6_isIn_j1_1 bv (-2000 : Int32) (2000 : Int32) = 0
  · simp [a, b, c] at hc
  by_cases d : f_X6_isIn_j1_1 dtv (0 : Int32) (10 : Int32) = 0
  · simp [a, b, c, d] at hc
  · have e := in_ok d
    have q : (0 : Int32).toInt = 0 := rfl
    exact nI_of2 (M := (10 : Int32)) (n := 10) rfl (by rw [fa_lt]; omega) (is_ok d).2
theorem li_ok {lov hiv : Int32} (hc : f_X5_setLimits_x lov hiv = 0) : Ilim lov hiv := by
  unfold f_X5_setLimits_x at hc
  simp only [rw_eq] at hc
  by_cases a : f_X6_isIn_j1_1 lov (-1000000 : Int32) (1000000 : Int32) = 0
  · simp [a] at hc
  by_cases b : f_X6_isIn_j1_1 hiv lov (1000000 : Int32) = 0
  · simp [a, b] at hc
  · have e1 := in_ok a
    have e2 := in_ok b
    exact ⟨e2.1, e1.1, e2.2⟩
theorem gs_ok {lmo np ni nd : Int32} (hc : f_X5_setGains_x lmo np ni nd = 0) : Gb np ni nd := by
  unfold f_X5_setGains_x at hc
  simp only [rg_eq] at hc
  by_cases a : f_X6_areGains_j1_1 np ni nd = 0
  · simp [a] at hc
  · exact ag_ok a
theorem sm_ok {lmo lma mov : Int32} (hc : f_X5_setMode_x lmo lma mov = 0) : (mov = 0 ∨ mov = 1 ∨ mov = 2) ∧ (lmo = 3 → mov = 0) ∧ (mov = 2 → ¬ lma = 0) := by
  unfold f_X5_setMode_x f_X5_setMode_j1_1 f_X5_setMode_j2_1 at hc
  simp only [rw_eq, rs_eq] at hc
  by_cases a : f_X6_isIn_j1_1 mov (0 : Int32) (2 : Int32) = 0
  · simp [a] at hc
  refine ⟨inx2 a, fun h => ?_, fun h d => ?_⟩
  · by_cases c : mov = 0
    · exact c
    · simp [a, h, c] at hc
  · subst h
    by_cases b : lmo = 3
    · simp [a, b, d] at hc
    · simp [a, b, d] at hc
theorem st_ok {lmo mav : Int32} (hc : f_X5_setTies_x lmo 0 mav = 0) : mav = 0 := by
  unfold f_X5_setTies_x f_X5_setTies_j1_1 at hc
  simp only [ra_eq] at hc
  by_cases a : mav = 0
  · exact a
  · simp [a] at hc
theorem sr_ok {lmo hev bav : Int32} (hc : f_X5_startRelay_x lmo hev bav = 0) : 0 ≤ hev.toInt ∧ hev.toInt ≤ 100000 := by
  unfold f_X5_startRelay_x at hc
  simp only [rw_eq] at hc
  by_cases a : f_X6_isIn_j1_1 hev (1 : Int32) (100000 : Int32) = 0
  · simp [a] at hc
  · have e := in_ok a
    have q1 : (1 : Int32).toInt = 1 := rfl
    have q2 : (100000 : Int32).toInt = 100000 := rfl
    omega
theorem rs_zero {pts : Nat → Int32} {lp : Int32} {k : Nat} {at_ then_ : Nat → Int64} {gm gp gi gd : Nat → Int32} (h : lp.toNatClampNeg = k) : Rs k (upd pts lp.toNatClampNeg 0 k) at_ then_ 0 gm gp gi gd := by
  rw [h, u_eq]
  exact ⟨0, by decide, rfl, rfl, fun i hi => absurd hi (by omega), fun i hi => absurd hi (by omega)⟩
theorem rs_ne {pts : Nat → Int32} {lp v : Int32} {k : Nat} {at_ then_ : Nat → Int64} {sn : Int32} {gm gp gi gd : Nat → Int32} (h : ¬ k = lp.toNatClampNeg) (hs : Rs k (pts k) at_ then_ sn gm gp gi gd) : Rs k (upd pts lp.toNatClampNeg v k) at_ then_ sn gm gp gi gd := by
  rw [u_ne _ _ h]
  exact hs
theorem chg_eq {me be ga sp ig : Nat → Int64} {n kp ki kd np ni nd : Int32} {ksp kig pme pmb : Int64} (h1 : ig n.toNatClampNeg = kig) (h2 : ga ((3 : Int32) * n).toNatClampNeg = kp.toInt64) (h3 : ga (((3 : Int32) * n) + (2 : Int32)).toNatClampNeg = kd.toInt64) (h4 : sp n.toNatClampNeg = ksp) (h5 : me n.toNatClampNeg = pme) (h6 : be n.toNatClampNeg = pmb) (g : Gb kp ki kd) (g2 : Gb np ni nd) : f_X6_changes_m_integral me be ga sp ig n np.toInt64 nd.toInt64 = vp_updL ig n.toNatClampNeg (f_X0_changeGains_kig kp kd ksp kig pme pmb np nd) := by
  unfold f_X6_changes_m_integral f_X6_error_r f_X6_rate_r
  rw [cg_eq g g2, h1, h2, h3, h4, h5, h6]
theorem stl_eq {me be ga sp ig : Nat → Int64} {n kp kd : Int32} {ksp pme pmb ov v : Int64} (h2 : ga ((3 : Int32) * n).toNatClampNeg = kp.toInt64) (h3 : ga (((3 : Int32) * n) + (2 : Int32)).toNatClampNeg = kd.toInt64) (h4 : sp n.toNatClampNeg = ksp) (h5 : me n.toNatClampNeg = pme) (h6 : be n.toNatClampNeg = pmb) (hv : ov = v) : f_X6_settle_m_integral me be ga sp ig n ov = vp_updL ig n.toNatClampNeg (f_X0_settle_kig kp kd ksp pme pmb v) := by
  subst hv
  unfold f_X6_settle_m_integral f_X6_error_r f_X6_rate_r f_X0_settle_kig f_X0_error_r f_X0_rate_r
  rw [h2, h3, h4, h5, h6]
