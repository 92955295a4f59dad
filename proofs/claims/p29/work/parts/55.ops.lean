-- each operation of the law's step keeps a loop's books
theorem md_lmo (s : LT) (m : Int32) : yl_lmo (lu_setMode s m) = m := by
  show f_X1_changeMode_lmo (yl_lmo s) m = m
  unfold f_X1_changeMode_lmo
  by_cases c : m = yl_lmo s
  · rw [if_pos c]; exact c.symm
  · rw [if_neg c]
theorem md_q6 {x m : Int32} (h : ¬ x = 3 ∨ m = 0) : ¬ f_X5_setMode_j1_1 x m = (0 : Int32) := by
  unfold f_X5_setMode_j1_1
  by_cases c : x = 3
  · rw [if_pos c, if_pos (h.resolve_left (fun q => q c))]; decide
  · rw [if_neg c]; decide
theorem md_q7 {x m : Int32} (h : m = 2 → ¬ x = 0) : ¬ f_X5_setMode_j2_1 x m = (0 : Int32) := by
  unfold f_X5_setMode_j2_1
  by_cases c : m = 2
  · rw [if_pos c, if_neg (h c)]; decide
  · rw [if_neg c]; decide
/-- from hand to automatic or cascade -/
theorem md_up {k : Nat} {s : LT} {m : Int32} {v : Int64} {fw fu fg : Nat → Int64} {fn : Nat → Int32} (h : RP k s fw fu fg fn) (h0 : yl_lmo s = 0) (hm : m = 1 ∨ m = 2) (hv : (v = 1 ∧ m = 1) ∨ v = 0) (hl : m = 2 → ¬ yl_lma s = 0) :
    RP k (lu_setMode s m) (vp_updL (vp_updL (vp_updL fw (20 * k + 15) v) (20 * k + 16) (yl_lou s)) (20 * k + 14) 0) fu fg fn ∧ yl_kig (lu_setMode s m) = (((1000 : Int64) * (yl_lou s)) - ((yl_kp s).toInt64 * ((yl_ksp s) - (yl_pme s)))) - ((yl_kd s).toInt64 * ((fw (20 * k + 10)) - (yl_pme s))) := by
  obtain ⟨p1, p2, p3, p4, p5, p6, p7, p8, p9, p10, p11, p12, p13, p14, p15⟩ := h
  have n0 : ¬ m = 0 := by rcases hm with rfl | rfl <;> decide
  have n1 : ¬ m = yl_lmo s := by rw [h0]; exact n0
  have e1 : f_X1_changeMode_lmo (yl_lmo s) m = m := by unfold f_X1_changeMode_lmo; rw [if_neg n1]
  have e2 : f_X1_changeMode_lha (yl_lmo s) (yl_lha s) (yl_lou s) m = yl_lha s := by unfold f_X1_changeMode_lha f_X1_changeMode_j1_1; rw [if_neg n1, if_neg n0]
  have e3 : f_X1_changeMode_kig (yl_lmo s) (yl_lou s) (yl_kp s) (yl_kd s) (yl_ksp s) (yl_kig s) (yl_pme s) (yl_pmb s) m = f_X0_settle_kig (yl_kp s) (yl_kd s) (yl_ksp s) (yl_pme s) (yl_pmb s) (yl_lou s) := by unfold f_X1_changeMode_kig f_X1_changeMode_j1_2; rw [if_neg n1, if_neg n0, if_pos h0]
  have e4 : f_X1_changeMode_kgo (yl_lmo s) (yl_kgo s) m = 0 := by unfold f_X1_changeMode_kgo f_X1_changeMode_j1_3; rw [if_neg n1, if_neg n0, if_pos h0]
  have e5 : f_X1_changeMode_rpr (yl_lmo s) (yl_rpr s) m = yl_rpr s := by unfold f_X1_changeMode_rpr f_X1_changeMode_j1_4; rw [if_neg n1, if_neg n0]
  have n3 : ¬ m = 3 := by rcases hm with rfl | rfl <;> decide
  constructor
  · refine RP_setMode ?_
    rw [e1, e2, e3, e4, e5]
    refine ⟨RPl_w p1 (by intro i hi; repeat rw [ul_ne _ _ (by omega)]), RLi_w p2 (by intro i hi; repeat rw [ul_ne _ _ (by omega)]), RHa_w p3 (by intro i hi; repeat rw [ul_ne _ _ (by omega)]), ?_, RMe_w p5 (by intro i hi; repeat rw [ul_ne _ _ (by omega)]), RRe_n n3, p7, p8, p9, p10, p11, ?_, RIn_0 (ul_eq _ _ _), ?_, p15⟩
    · obtain ⟨q1, q2, q3, q4, q5, q6⟩ := p4
      refine RTi_w ⟨q1, q2, q3, q4, fun c => ?_, q6⟩ (by intro i hi; repeat rw [ul_ne _ _ (by omega)])
      exact q4.resolve_left (hl c)
    · have w15 : vp_updL (vp_updL (vp_updL fw (20 * k + 15) v) (20 * k + 16) (yl_lou s)) (20 * k + 14) 0 (20 * k + 15) = v := by rw [ul_ne _ _ (by omega), ul_ne _ _ (by omega), ul_eq]
      have w16 : vp_updL (vp_updL (vp_updL fw (20 * k + 15) v) (20 * k + 16) (yl_lou s)) (20 * k + 14) 0 (20 * k + 16) = yl_lou s := by rw [ul_ne _ _ (by omega), ul_eq]
      unfold RBu
      rw [w15, w16]
      rcases hv with ⟨a, b⟩ | a
      · exact Or.inr ⟨a, b, rfl, p14.2.2.2, rfl⟩
      · exact Or.inl a
    · obtain ⟨q1, q2, q3, q4⟩ := p14
      exact ⟨by rcases hm with a | a; exact Or.inr (Or.inl a); exact Or.inr (Or.inr (Or.inl a)), q2, q3, q4⟩
  · show f_X1_changeMode_kig (yl_lmo s) (yl_lou s) (yl_kp s) (yl_kd s) (yl_ksp s) (yl_kig s) (yl_pme s) (yl_pmb s) m = _
    rw [e3, p5.1]
    rfl
/-- automatic to cascade or back, or the same again -/
theorem md_same {k : Nat} {s : LT} {m : Int32} {fw fu fg : Nat → Int64} {fn : Nat → Int32} (h : RP k s fw fu fg fn) (h0 : ¬ yl_lmo s = 0) (h3 : ¬ yl_lmo s = 3) (hm : m = 1 ∨ m = 2) (h15 : fw (20 * k + 15) = 0) (hl : m = 2 → ¬ yl_lma s = 0) :
    RP k (lu_setMode s m) fw fu fg fn := by
  obtain ⟨p1, p2, p3, p4, p5, p6, p7, p8, p9, p10, p11, p12, p13, p14, p15⟩ := h
  have n0 : ¬ m = 0 := by rcases hm with rfl | rfl <;> decide
  have n3 : ¬ m = 3 := by rcases hm with rfl | rfl <;> decide
  have e1 : f_X1_changeMode_lmo (yl_lmo s) m = m := md_lmo s m
  have e2 : f_X1_changeMode_lha (yl_lmo s) (yl_lha s) (yl_lou s) m = yl_lha s := by unfold f_X1_changeMode_lha f_X1_changeMode_j1_1; rw [if_neg n0]; exact ite_self _
  have e3 : f_X1_changeMode_kig (yl_lmo s) (yl_lou s) (yl_kp s) (yl_kd s) (yl_ksp s) (yl_kig s) (yl_pme s) (yl_pmb s) m = yl_kig s := by unfold f_X1_changeMode_kig f_X1_changeMode_j1_2; rw [if_neg n0, if_neg h0]; exact ite_self _
  have e4 : f_X1_changeMode_kgo (yl_lmo s) (yl_kgo s) m = yl_kgo s := by unfold f_X1_changeMode_kgo f_X1_changeMode_j1_3; rw [if_neg n0, if_neg h0]; exact ite_self _
  have e5 : f_X1_changeMode_rpr (yl_lmo s) (yl_rpr s) m = yl_rpr s := by unfold f_X1_changeMode_rpr f_X1_changeMode_j1_4; rw [if_neg n0]; exact ite_self _
  refine RP_setMode ?_
  rw [e1, e2, e3, e4, e5]
  obtain ⟨q1, q2, q3, q4, q5, q6⟩ := p4
  obtain ⟨r1, r2, r3, r4⟩ := p14
  exact ⟨p1, p2, p3, ⟨q1, q2, q3, q4, fun c => q4.resolve_left (hl c), q6⟩, p5, RRe_n n3, p7, p8, p9, p10, p11, RBu_0 h15, p13, ⟨by rcases hm with a | a; exact Or.inr (Or.inl a); exact Or.inr (Or.inr (Or.inl a)), r2, r3, r4⟩, p15⟩
/-- to hand -/
theorem md_dn {k : Nat} {s : LT} {fw fu fg : Nat → Int64} {fn : Nat → Int32} (h : RP k s fw fu fg fn) (h0 : ¬ yl_lmo s = 0) : RP k (lu_setMode s 0) (vp_updL (vp_updL fw (20 * k + 7) (yl_lou s)) (20 * k + 15) 0) fu fg fn ∧ (yl_lmo s = 3 → yl_rpr (lu_setMode s 0) = 0) := by
  obtain ⟨p1, p2, p3, p4, p5, p6, p7, p8, p9, p10, p11, p12, p13, p14, p15⟩ := h
  have n1 : ¬ (0 : Int32) = yl_lmo s := fun q => h0 q.symm
  have e1 : f_X1_changeMode_lmo (yl_lmo s) 0 = 0 := md_lmo s 0
  have e2 : f_X1_changeMode_lha (yl_lmo s) (yl_lha s) (yl_lou s) 0 = yl_lou s := by unfold f_X1_changeMode_lha f_X1_changeMode_j1_1; rw [if_neg n1, if_pos rfl]
  have e3 : f_X1_changeMode_kig (yl_lmo s) (yl_lou s) (yl_kp s) (yl_kd s) (yl_ksp s) (yl_kig s) (yl_pme s) (yl_pmb s) 0 = yl_kig s := by unfold f_X1_changeMode_kig f_X1_changeMode_j1_2; rw [if_neg n1, if_pos rfl]
  have e4 : f_X1_changeMode_kgo (yl_lmo s) (yl_kgo s) 0 = yl_kgo s := by unfold f_X1_changeMode_kgo f_X1_changeMode_j1_3; rw [if_neg n1, if_pos rfl]
  have e5 : f_X1_changeMode_rpr (yl_lmo s) (yl_rpr s) 0 = f_X1_goToHand_j1_1 (yl_lmo s) (yl_rpr s) := by unfold f_X1_changeMode_rpr f_X1_changeMode_j1_4; rw [if_neg n1, if_pos rfl]
  constructor
  · refine RP_setMode ?_
    rw [e1, e2, e3, e4]
    obtain ⟨q1, q2, q3, q4, q5, q6⟩ := p4
    obtain ⟨r1, r2, r3, r4⟩ := p14
    refine ⟨RPl_w p1 (by intro i hi; repeat rw [ul_ne _ _ (by omega)]), RLi_w p2 (by intro i hi; repeat rw [ul_ne _ _ (by omega)]), ⟨by rw [ul_ne _ _ (by omega), ul_eq], r4⟩, RTi_w ⟨q1, q2, q3, q4, fun c => absurd c (by decide), q6⟩ (by intro i hi; repeat rw [ul_ne _ _ (by omega)]), RMe_w p5 (by intro i hi; repeat rw [ul_ne _ _ (by omega)]), RRe_n (by decide), p7, p8, p9, p10, p11, RBu_0 (ul_eq _ _ _), RIn_w p13 (by intro i hi; repeat rw [ul_ne _ _ (by omega)]), ⟨Or.inl rfl, r2, r3, r4⟩, p15⟩
  · intro c
    show f_X1_changeMode_rpr (yl_lmo s) (yl_rpr s) 0 = 0
    rw [e5]
    unfold f_X1_goToHand_j1_1
    rw [if_pos c]
theorem md_00 {k : Nat} {s : LT} {fw fu fg : Nat → Int64} {fn : Nat → Int32} (h : RP k s fw fu fg fn) (h0 : yl_lmo s = 0) : RP k (lu_setMode s 0) fw fu fg fn := by
  have n1 : (0 : Int32) = yl_lmo s := h0.symm
  have e1 : f_X1_changeMode_lmo (yl_lmo s) 0 = yl_lmo s := by unfold f_X1_changeMode_lmo; rw [if_pos n1]
  have e2 : f_X1_changeMode_lha (yl_lmo s) (yl_lha s) (yl_lou s) 0 = yl_lha s := by unfold f_X1_changeMode_lha; rw [if_pos n1]
  have e3 : f_X1_changeMode_kig (yl_lmo s) (yl_lou s) (yl_kp s) (yl_kd s) (yl_ksp s) (yl_kig s) (yl_pme s) (yl_pmb s) 0 = yl_kig s := by unfold f_X1_changeMode_kig; rw [if_pos n1]
  have e4 : f_X1_changeMode_kgo (yl_lmo s) (yl_kgo s) 0 = yl_kgo s := by unfold f_X1_changeMode_kgo; rw [if_pos n1]
  have e5 : f_X1_changeMode_rpr (yl_lmo s) (yl_rpr s) 0 = yl_rpr s := by unfold f_X1_changeMode_rpr; rw [if_pos n1]
  refine RP_setMode ?_
  rw [e1, e2, e3, e4, e5]
  exact h
theorem md_l9 {k : Nat} {s : LT} {fw fu fg : Nat → Int64} {fn : Nat → Int32} (h : RP k s fw fu fg fn) (h9 : ¬ fw (20 * k + 9) = 0) : ¬ yl_lma s = 0 := by
  obtain ⟨p1, p2, p3, p4, -⟩ := h
  intro q
  rw [p4.2.1, q] at h9
  exact h9 rfl
theorem md_pos {k : Nat} {s : LT} {fw fu fg : Nat → Int64} {fn : Nat → Int32} (h : RP k s fw fu fg fn) (h0 : ¬ yl_lmo s = 0) : ¬ yl_lmo s ≤ (0 : Int32) := by
  obtain ⟨p1, p2, p3, p4, p5, p6, p7, p8, p9, p10, p11, p12, p13, p14, p15⟩ := h
  rcases p14.1 with c | c | c | c
  · exact absurd c h0
  · rw [c]; decide
  · rw [c]; decide
  · rw [c]; decide
/-- what a step leaves: the loop's books kept, all else as it was -/
def SPost (k : Nat) (T : Nat → LT) (fw fu fg : Nat → Int64) (fn : Nat → Int32) (fw2 fg2 : Nat → Int64) (fn2 : Nat → Int32) (T2 : Nat → LT) : Prop :=
  RP k (T2 k) fw2 fu fg2 fn2 ∧ (∀ j : Nat, ¬ j = k → T2 j = T j) ∧ (∀ i : Nat, i < 20 * k ∨ 20 * k + 20 ≤ i → fw2 i = fw i ∧ fg2 i = fg i) ∧ (∀ j : Nat, ¬ j = k → ¬ j = k + 3 → fn2 j = fn j)
theorem SP_id {k : Nat} {T : Nat → LT} {fw fu fg : Nat → Int64} {fn : Nat → Int32} (h : RP k (T k) fw fu fg fn) : SPost k T fw fu fg fn fw fg fn T := ⟨h, fun _ _ => rfl, fun _ _ => ⟨rfl, rfl⟩, fun _ _ _ => rfl⟩
theorem SP_mk {k : Nat} {T : Nat → LT} {s : LT} {fw fu fg fw2 fg2 : Nat → Int64} {fn fn2 : Nat → Int32} (h : RP k s fw2 fu fg2 fn2) (hw : ∀ i : Nat, i < 20 * k ∨ 20 * k + 20 ≤ i → fw2 i = fw i) (hg : ∀ i : Nat, i < 20 * k ∨ 20 * k + 20 ≤ i → fg2 i = fg i) (hn : ∀ j : Nat, ¬ j = k → ¬ j = k + 3 → fn2 j = fn j) : SPost k T fw fu fg fn fw2 fg2 fn2 (upT T k s) :=
  ⟨by rw [upT_e]; exact h, fun j hj => upT_n T s hj, fun i hi => ⟨hw i hi, hg i hi⟩, hn⟩
theorem sg_sn {k : Nat} {s : LT} {fw fu fg : Nat → Int64} {fn : Nat → Int32} (h : RP k s fw fu fg fn) : yl_sn s = fn k := by
  obtain ⟨p1, p2, p3, p4, p5, p6, p7, p8, p9, ⟨j, q1, q2, q3, -⟩, -⟩ := h
  rw [q2, q3]
theorem gs_RP {k : Nat} {s : LT} {np ni nd : Int32} {fw fu fg : Nat → Int64} {fn : Nat → Int32} (h : RP k s fw fu fg fn) (h3 : ¬ yl_lmo s = 3) (h15 : fw (20 * k + 15) = 0) (hb : Gb np ni nd) : RP k (lu_setGains s np ni nd) (vp_updL fw (20 * k + 14) 0) fu fg (upd fn k 0) := by
  obtain ⟨p1, p2, p3, p4, p5, p6, p7, p8, p9, p10, p11, p12, p13, p14, p15⟩ := h
  refine RP_setGains ?_
  refine ⟨RPl_w p1 (by intro i hi; repeat rw [ul_ne _ _ (by omega)]), RLi_w p2 (by intro i hi; repeat rw [ul_ne _ _ (by omega)]), RHa_w p3 (by intro i hi; repeat rw [ul_ne _ _ (by omega)]), RTi_w p4 (by intro i hi; repeat rw [ul_ne _ _ (by omega)]), RMe_w p5 (by intro i hi; repeat rw [ul_ne _ _ (by omega)]), RRe_n h3, p7, p8, p9, ?_, hb, RBu_0 (by rw [ul_ne _ _ (by omega)]; exact h15), RIn_0 (ul_eq _ _ _), p14, p15⟩
  exact ⟨0, by omega, rfl, u_eq _ _ _, fun i hi => absurd hi (by omega), fun i hi => absurd hi (by omega)⟩
theorem gs_sum {k : Nat} {s : LT} {np ni nd : Int32} {fw fu fg : Nat → Int64} {fn : Nat → Int32} (h : RP k s fw fu fg fn) (hb : Gb np ni nd) :
    (((yl_kig (lu_setGains s np ni nd)) + (np.toInt64 * ((yl_ksp s) - (yl_pme s)))) + (nd.toInt64 * ((fw (20 * k + 10)) - (yl_pme s)))) = (((yl_kig s) + ((yl_kp s).toInt64 * ((yl_ksp s) - (yl_pme s)))) + ((yl_kd s).toInt64 * ((fw (20 * k + 10)) - (yl_pme s)))) := by
  obtain ⟨p1, p2, p3, p4, p5, p6, p7, p8, p9, p10, p11, p12, p13, p14, p15⟩ := h
  show (((f_X0_changeGains_kig (yl_kp s) (yl_kd s) (yl_ksp s) (yl_kig s) (yl_pme s) (yl_pmb s) np nd) + (np.toInt64 * ((yl_ksp s) - (yl_pme s)))) + (nd.toInt64 * ((fw (20 * k + 10)) - (yl_pme s)))) = _
  rw [p5.1]
  unfold f_X0_changeGains_kig f_X0_error_r f_X0_rate_r
  unfold Gb at hb p11
  rw [sg_64 (x := yl_kp s) (y := np) (by omega) (by omega), sg_64 (x := yl_kd s) (y := nd) (by omega) (by omega)]
  grind
/-- numbers of the law's draws -/
theorem bd_in {n c : Nat} (hn : n < 2 ^ 30) (hc : c < 2 ^ 30) : (nI n - nI c).toInt = (n : Int) - (c : Int) := by
  have e1 : (nI n).toInt = (n : Int) := nI_toInt (by omega)
  have e2 : (nI c).toInt = (c : Int) := nI_toInt (by omega)
  rw [fb_subI (by rw [e1, e2]; omega) (by rw [e1, e2]; omega), e1, e2]
theorem bd_lo {v m : Int32} {a M : Int} (hv : v.toInt = a) (hm : m.toInt = M) (h : M ≤ a) : ¬ v < m := by rw [fa_lt]; omega
theorem bd_hi {v m : Int32} {a M : Int} (hv : v.toInt = a) (hm : m.toInt = M) (h : a ≤ M) : ¬ m < v := by rw [fa_lt]; omega
theorem nI_i {n : Nat} (hn : n < 2 ^ 30) : (nI n).toInt = (n : Int) := nI_toInt (by omega)
theorem Gb_q {np ni nd : Int32} (h : Gb np ni nd) : (¬ np < (-20000 : Int32)) ∧ (¬ (20000 : Int32) < np) ∧ (¬ ni < (-5000 : Int32)) ∧ (¬ (5000 : Int32) < ni) ∧ (¬ nd < (-50000 : Int32)) ∧ (¬ (50000 : Int32) < nd) := by
  obtain ⟨a, b, c, d, e, f⟩ := h
  exact ⟨bd_lo rfl rfl a, bd_hi rfl rfl b, bd_lo rfl rfl c, bd_hi rfl rfl d, bd_lo rfl rfl e, bd_hi rfl rfl f⟩
theorem sg_q10 {x : Int32} (h : ¬ x = 3) : ¬ f_X5_setGains_j1_1 x = (0 : Int32) := by unfold f_X5_setGains_j1_1; rw [if_neg h]; decide
