-- the step's operations, one after another: the books they keep
theorem bd_s {n c : Nat} {C : Int32} (hC : C = nI c) (hn : n < 2 ^ 30) (hc : c < 2 ^ 30) : (nI n - C).toInt = (n : Int) - (c : Int) := by
  subst hC
  exact bd_in hn hc
theorem Gb_mk {p i d : Int32} {a b c : Int} (ha : p.toInt = a) (hb : i.toInt = b) (hc : d.toInt = c) (h : -20000 ≤ a ∧ a ≤ 20000 ∧ -5000 ≤ b ∧ b ≤ 5000 ∧ -50000 ≤ c ∧ c ≤ 50000) : Gb p i d := by
  unfold Gb
  rw [ha, hb, hc]
  exact h
theorem SP_same {k : Nat} {T : Nat → LT} {fw fu fg fw2 fg2 : Nat → Int64} {fn fn2 : Nat → Int32} (h : RP k (T k) fw2 fu fg2 fn2) (hw : ∀ i : Nat, i < 20 * k ∨ 20 * k + 20 ≤ i → fw2 i = fw i) (hg : ∀ i : Nat, i < 20 * k ∨ 20 * k + 20 ≤ i → fg2 i = fg i) (hn : ∀ j : Nat, ¬ j = k → ¬ j = k + 3 → fn2 j = fn j) : SPost k T fw fu fg fn fw2 fg2 fn2 T :=
  ⟨h, fun _ _ => rfl, fun i hi => ⟨hw i hi, hg i hi⟩, hn⟩
theorem op_setPlant {k d : Nat} {s : LT} {a1 a2 b : Int32} {fw fu fg : Nat → Int64} {fn : Nat → Int32} (h : RP k s fw fu fg fn) (b1 : -2000 ≤ a1.toInt ∧ a1.toInt ≤ 2000) (b2 : -2000 ≤ a2.toInt ∧ a2.toInt ≤ 2000) (b3 : -2000 ≤ b.toInt ∧ b.toInt ≤ 2000) (hd : d < 11) :
    RP k (lu_setPlant s a1 a2 b (nI d)) (vp_updL (vp_updL (vp_updL (vp_updL fw (20 * k) a1.toInt64) (20 * k + 1) a2.toInt64) (20 * k + 2) b.toInt64) (20 * k + 3) (nI d).toInt64) fu fg fn := by
  obtain ⟨p1, p2, p3, p4, p5, p6, p7, p8, p9, p10, p11, p12, p13, p14, p15⟩ := h
  obtain ⟨e0, e1, e2, e3, e4, f1, f2, f3, f4, f5⟩ := p1
  refine RP_setPlant ?_
  refine ⟨⟨?_, ?_, ?_, ul_eq _ _ _, ?_, b1, b2, b3, ⟨d, hd, rfl⟩, f5⟩, RLi_w p2 (by intro i hi; repeat rw [ul_ne _ _ (by omega)]), RHa_w p3 (by intro i hi; repeat rw [ul_ne _ _ (by omega)]), RTi_w p4 (by intro i hi; repeat rw [ul_ne _ _ (by omega)]), RMe_w p5 (by intro i hi; repeat rw [ul_ne _ _ (by omega)]), RRe_w p6 (by intro i hi; repeat rw [ul_ne _ _ (by omega)]) rfl, p7, p8, p9, p10, p11, RBu_w p12 (by intro i hi; repeat rw [ul_ne _ _ (by omega)]), RIn_w p13 (by intro i hi; repeat rw [ul_ne _ _ (by omega)]), p14, p15⟩
  · rw [ul_ne _ _ (by omega), ul_ne _ _ (by omega), ul_ne _ _ (by omega), ul_eq]
  · rw [ul_ne _ _ (by omega), ul_ne _ _ (by omega), ul_eq]
  · rw [ul_ne _ _ (by omega), ul_eq]
  · rw [ul_ne _ _ (by omega), ul_ne _ _ (by omega), ul_ne _ _ (by omega), ul_ne _ _ (by omega)]; exact e4
theorem op_setLoad {k : Nat} {s : LT} {v : Int32} {fw fu fg : Nat → Int64} {fn : Nat → Int32} (h : RP k s fw fu fg fn) (b1 : -10000 ≤ v.toInt ∧ v.toInt ≤ 10000) : RP k (lu_setLoad s v) (vp_updL fw (20 * k + 4) v.toInt64) fu fg fn := by
  obtain ⟨p1, p2, p3, p4, p5, p6, p7, p8, p9, p10, p11, p12, p13, p14, p15⟩ := h
  obtain ⟨e0, e1, e2, e3, e4, f1, f2, f3, f4, f5⟩ := p1
  refine RP_setLoad ?_
  refine ⟨⟨?_, ?_, ?_, ?_, ul_eq _ _ _, f1, f2, f3, f4, b1⟩, RLi_w p2 (by intro i hi; repeat rw [ul_ne _ _ (by omega)]), RHa_w p3 (by intro i hi; repeat rw [ul_ne _ _ (by omega)]), RTi_w p4 (by intro i hi; repeat rw [ul_ne _ _ (by omega)]), RMe_w p5 (by intro i hi; repeat rw [ul_ne _ _ (by omega)]), RRe_w p6 (by intro i hi; repeat rw [ul_ne _ _ (by omega)]) rfl, p7, p8, p9, p10, p11, RBu_w p12 (by intro i hi; repeat rw [ul_ne _ _ (by omega)]), RIn_w p13 (by intro i hi; repeat rw [ul_ne _ _ (by omega)]), p14, p15⟩
  · rw [ul_ne _ _ (by omega)]; exact e0
  · rw [ul_ne _ _ (by omega)]; exact e1
  · rw [ul_ne _ _ (by omega)]; exact e2
  · rw [ul_ne _ _ (by omega)]; exact e3
theorem sl_r {k : Nat} {s : LT} {fw fu fg : Nat → Int64} {fn : Nat → Int32} (h : RP k s fw fu fg fn) : (yl_pld s).toInt64 = fw (20 * k + 4) := by
  obtain ⟨p1, -⟩ := h
  exact p1.2.2.2.2.1.symm
theorem op_setLimits {k : Nat} {s : LT} {lo hi : Int32} {fw fu fg : Nat → Int64} {fn : Nat → Int32} (h : RP k s fw fu fg fn) (hl : Ilim lo hi) : RP k (lu_setLimits s lo hi) (vp_updL (vp_updL fw (20 * k + 5) lo.toInt64) (20 * k + 6) hi.toInt64) fu fg fn := by
  obtain ⟨p1, p2, p3, p4, p5, p6, p7, p8, p9, p10, p11, p12, p13, p14, p15⟩ := h
  refine RP_setLimits ?_
  refine ⟨RPl_w p1 (by intro i hi; repeat rw [ul_ne _ _ (by omega)]), ⟨?_, ul_eq _ _ _, hl⟩, RHa_w p3 (by intro i hi; repeat rw [ul_ne _ _ (by omega)]), RTi_w p4 (by intro i hi; repeat rw [ul_ne _ _ (by omega)]), RMe_w p5 (by intro i hi; repeat rw [ul_ne _ _ (by omega)]), RRe_w p6 (by intro i hi; repeat rw [ul_ne _ _ (by omega)]) rfl, p7, p8, p9, p10, p11, RBu_w p12 (by intro i hi; repeat rw [ul_ne _ _ (by omega)]), RIn_w p13 (by intro i hi; repeat rw [ul_ne _ _ (by omega)]), p14, p15⟩
  rw [ul_ne _ _ (by omega), ul_eq]
theorem op_setGuard {k g sh : Nat} {s : LT} {fw fu fg : Nat → Int64} {fn : Nat → Int32} (h : RP k s fw fu fg fn) (hg : g < 3) : RP k (lu_setGuard s (nI g) (nI sh)) fw fu fg fn := by
  obtain ⟨p1, p2, p3, p4, p5, p6, p7, p8, p9, p10, p11, p12, p13, p14, p15⟩ := h
  obtain ⟨r1, r2, r3, r4⟩ := p14
  refine RP_setGuard ?_
  exact ⟨p1, p2, p3, p4, p5, p6, p7, p8, p9, p10, p11, p12, p13, ⟨r1, by rw [nI_i (by omega)]; omega, r3, r4⟩, p15⟩
theorem sg_kgu {k : Nat} {s : LT} {fw fu fg : Nat → Int64} {fn : Nat → Int32} (h : RP k s fw fu fg fn) : ¬ yl_kgu s < (0 : Int32) := by
  obtain ⟨p1, p2, p3, p4, p5, p6, p7, p8, p9, p10, p11, p12, p13, p14, p15⟩ := h
  exact bd_lo (M := 0) rfl (by decide) p14.2.1
theorem op_15 {k : Nat} {s : LT} {fw fu fg : Nat → Int64} {fn : Nat → Int32} (h : RP k s fw fu fg fn) : RP k s (vp_updL fw (20 * k + 15) 0) fu fg fn := by
  obtain ⟨p1, p2, p3, p4, p5, p6, p7, p8, p9, p10, p11, p12, p13, p14, p15⟩ := h
  exact ⟨RPl_w p1 (by intro i hi; repeat rw [ul_ne _ _ (by omega)]), RLi_w p2 (by intro i hi; repeat rw [ul_ne _ _ (by omega)]), RHa_w p3 (by intro i hi; repeat rw [ul_ne _ _ (by omega)]), RTi_w p4 (by intro i hi; repeat rw [ul_ne _ _ (by omega)]), RMe_w p5 (by intro i hi; repeat rw [ul_ne _ _ (by omega)]), RRe_w p6 (by intro i hi; repeat rw [ul_ne _ _ (by omega)]) rfl, p7, p8, p9, p10, p11, RBu_0 (ul_eq _ _ _), RIn_w p13 (by intro i hi; repeat rw [ul_ne _ _ (by omega)]), p14, p15⟩
theorem op_setSetpoint {k : Nat} {s : LT} {v : Int32} {fw fu fg : Nat → Int64} {fn : Nat → Int32} (h : RP k s fw fu fg fn) (hv : -1000000 ≤ v.toInt ∧ v.toInt ≤ 1000000) : RP k (lu_setSetpoint s v) (vp_updL fw (20 * k + 15) 0) fu fg fn := by
  obtain ⟨p1, p2, p3, p4, p5, p6, p7, p8, p9, p10, p11, p12, p13, p14, p15⟩ := h
  obtain ⟨r1, r2, r3, r4⟩ := p14
  refine RP_setSetpoint ?_
  refine ⟨RPl_w p1 (by intro i hi; repeat rw [ul_ne _ _ (by omega)]), RLi_w p2 (by intro i hi; repeat rw [ul_ne _ _ (by omega)]), RHa_w p3 (by intro i hi; repeat rw [ul_ne _ _ (by omega)]), RTi_w p4 (by intro i hi; repeat rw [ul_ne _ _ (by omega)]), RMe_w p5 (by intro i hi; repeat rw [ul_ne _ _ (by omega)]), RRe_w p6 (by intro i hi; repeat rw [ul_ne _ _ (by omega)]) rfl, p7, p8, p9, p10, p11, RBu_0 (ul_eq _ _ _), RIn_w p13 (by intro i hi; repeat rw [ul_ne _ _ (by omega)]), ⟨r1, r2, ?_, r4⟩, p15⟩
  unfold Ime f_X5_setSetpoint_ksp
  rw [Int32.toInt_toInt64]
  exact hv
theorem ss_r {k : Nat} {s : LT} {v : Int32} {fw fu fg : Nat → Int64} {fn : Nat → Int32} (h : RP k s fw fu fg fn) : (lr_setSetpoint s v).toInt64 = yl_ksp s := by
  obtain ⟨p1, p2, p3, p4, p5, p6, p7, p8, p9, p10, p11, p12, p13, p14, p15⟩ := h
  have z := p14.2.2.1
  unfold Ime at z
  exact to32 (by omega) (by omega)
theorem ss_q {x : Int32} (h : ¬ x = 2) : ¬ f_X5_setSetpoint_j1_1 x = (0 : Int32) := by unfold f_X5_setSetpoint_j1_1; rw [if_neg h]; decide
theorem op_setHand {k : Nat} {s : LT} {v : Int32} {fw fu fg : Nat → Int64} {fn : Nat → Int32} (h : RP k s fw fu fg fn) (hv : -1000000 ≤ v.toInt ∧ v.toInt ≤ 1000000) : RP k (lu_setHand s v) (vp_updL fw (20 * k + 7) v.toInt64) fu fg fn := by
  obtain ⟨p1, p2, p3, p4, p5, p6, p7, p8, p9, p10, p11, p12, p13, p14, p15⟩ := h
  refine RP_setHand ?_
  refine ⟨RPl_w p1 (by intro i hi; repeat rw [ul_ne _ _ (by omega)]), RLi_w p2 (by intro i hi; repeat rw [ul_ne _ _ (by omega)]), ⟨ul_eq _ _ _, ?_⟩, RTi_w p4 (by intro i hi; repeat rw [ul_ne _ _ (by omega)]), RMe_w p5 (by intro i hi; repeat rw [ul_ne _ _ (by omega)]), RRe_w p6 (by intro i hi; repeat rw [ul_ne _ _ (by omega)]) rfl, p7, p8, p9, p10, p11, RBu_w p12 (by intro i hi; repeat rw [ul_ne _ _ (by omega)]), RIn_w p13 (by intro i hi; repeat rw [ul_ne _ _ (by omega)]), p14, p15⟩
  unfold Ime f_X5_setHand_lha
  rw [Int32.toInt_toInt64]
  exact hv
theorem sh_r {k : Nat} {s : LT} {v : Int32} {fw fu fg : Nat → Int64} {fn : Nat → Int32} (h : RP k s fw fu fg fn) : (lr_setHand s v).toInt64 = fw (20 * k + 7) := by
  obtain ⟨p1, p2, p3, -⟩ := h
  have z := p3.2
  unfold Ime at z
  rw [p3.1]
  exact to32 (by omega) (by omega)
theorem sh_q {x : Int32} (h : x = 0) : ¬ f_X5_setHand_j1_1 x = (0 : Int32) := by unfold f_X5_setHand_j1_1; rw [if_pos h]; decide
theorem op_setTies {k : Nat} {s : LT} {fo ma : Int32} {x y : Int64} {fw fu fg : Nat → Int64} {fn : Nat → Int32} (h : RP k s fw fu fg fn) (hf : Ist fo) (hm : Ist ma) (hx : x = fo.toInt64) (hy : y = ma.toInt64) (h2 : yl_lmo s = 2 → ma = 1) (h0 : k = 0 → ma = 0) : RP k (lu_setTies s fo ma) (vp_updL (vp_updL fw (20 * k + 8) x) (20 * k + 9) y) fu fg fn := by
  obtain ⟨p1, p2, p3, p4, p5, p6, p7, p8, p9, p10, p11, p12, p13, p14, p15⟩ := h
  refine RP_setTies ?_
  refine ⟨RPl_w p1 (by intro i hi; repeat rw [ul_ne _ _ (by omega)]), RLi_w p2 (by intro i hi; repeat rw [ul_ne _ _ (by omega)]), RHa_w p3 (by intro i hi; repeat rw [ul_ne _ _ (by omega)]), ⟨?_, (ul_eq _ _ _).trans hy, hf, hm, h2, h0⟩, RMe_w p5 (by intro i hi; repeat rw [ul_ne _ _ (by omega)]), RRe_w p6 (by intro i hi; repeat rw [ul_ne _ _ (by omega)]) rfl, p7, p8, p9, p10, p11, RBu_w p12 (by intro i hi; repeat rw [ul_ne _ _ (by omega)]), RIn_w p13 (by intro i hi; repeat rw [ul_ne _ _ (by omega)]), p14, p15⟩
  rw [ul_ne _ _ (by omega), ul_eq]
  exact hx
theorem st_m0 {k : Nat} {s : LT} {fw fu fg : Nat → Int64} {fn : Nat → Int32} (h : RP k s fw fu fg fn) (h0 : k = 0) : ¬ yl_lmo s = 2 := by
  obtain ⟨p1, p2, p3, p4, -⟩ := h
  intro q
  have a := p4.2.2.2.2.1 q
  rw [p4.2.2.2.2.2 h0] at a
  exact absurd a (by decide)
theorem st_q6 {k : Nat} {m : Int32} (hk : k < 3) (h : k = 0 → m = 0) : ¬ f_X5_setTies_j1_1 (nI k) m = (0 : Int32) := by
  unfold f_X5_setTies_j1_1
  by_cases a : nI k = 0
  · rw [if_pos a, if_pos (h ((nI_eq (b := 0) (by omega) (by omega)).mp a))]; decide
  · rw [if_neg a]; decide
theorem st_q7 {x m : Int32} (h : m = 0 → ¬ x = 2) : ¬ f_X5_setTies_j2_1 x m = (0 : Int32) := by
  unfold f_X5_setTies_j2_1
  by_cases a : m = 0
  · rw [if_pos a, if_neg (h a)]; decide
  · rw [if_neg a]; decide
theorem op_startRelay {k : Nat} {s : LT} {he ba : Int32} {fw fu fg : Nat → Int64} {fn : Nat → Int32} (h : RP k s fw fu fg fn) (b1 : 1 ≤ he.toInt ∧ he.toInt ≤ 5000) (b2 : 0 ≤ ba.toInt ∧ ba.toInt ≤ 500) :
    RP k (lu_startRelay s he ba) (vp_updL (vp_updL (vp_updL (vp_updL fw (20 * k + 11) he.toInt64) (20 * k + 12) ba.toInt64) (20 * k + 13) (yl_lou s)) (20 * k + 15) 0) fu fg (upd fn (k + 3) 0) := by
  obtain ⟨p1, p2, p3, p4, p5, p6, p7, p8, p9, p10, p11, p12, p13, p14, p15⟩ := h
  obtain ⟨q1, q2, q3, q4, q5, q6⟩ := p4
  obtain ⟨r1, r2, r3, r4⟩ := p14
  refine RP_startRelay ?_
  refine ⟨RPl_w p1 (by intro i hi; repeat rw [ul_ne _ _ (by omega)]), RLi_w p2 (by intro i hi; repeat rw [ul_ne _ _ (by omega)]), RHa_w p3 (by intro i hi; repeat rw [ul_ne _ _ (by omega)]), RTi_w (fw := fw) ⟨q1, q2, q3, q4, fun c => absurd c (by decide), q6⟩ (by intro i hi; repeat rw [ul_ne _ _ (by omega)]), RMe_w p5 (by intro i hi; repeat rw [ul_ne _ _ (by omega)]), ?_, p7, p8, p9, RSc_n p10 (u_ne _ _ (by omega)), p11, RBu_0 (ul_eq _ _ _), RIn_w p13 (by intro i hi; repeat rw [ul_ne _ _ (by omega)]), ⟨Or.inr (Or.inr (Or.inr rfl)), r2, r3, r4⟩, p15⟩
  intro _
  refine ⟨?_, ?_, ?_, u_eq _ _ _, rfl, b1, b2, r4, Or.inr rfl, by decide, by decide, fun c => absurd c (by decide), fun c => absurd c (by decide)⟩
  · rw [ul_ne _ _ (by omega), ul_ne _ _ (by omega), ul_ne _ _ (by omega), ul_eq]
  · rw [ul_ne _ _ (by omega), ul_ne _ _ (by omega), ul_eq]
  · rw [ul_ne _ _ (by omega), ul_eq]
theorem sr_q {x : Int32} (h : x = 1) : ¬ f_X5_startRelay_j1_1 x = (0 : Int32) := by unfold f_X5_startRelay_j1_1; rw [if_pos h]; decide
/-- a point of the schedule -/
theorem ap_at {k : Nat} {s : LT} {fw fu fg : Nat → Int64} {fn : Nat → Int32} (h : RP k s fw fu fg fn) (h5 : ¬ fn k = 5) : ∃ j : Nat, j < 5 ∧ yl_sn s = nI j ∧ fn k = nI j ∧
    (∀ q : Nat, q + 1 = j → fg (4 * q + 20 * k) = (yl_gm s q).toInt64 ∧ -20000 ≤ (yl_gm s q).toInt ∧ (yl_gm s q).toInt ≤ -20000 + 9000 * (j : Int)) := by
  obtain ⟨p1, p2, p3, p4, p5, p6, p7, p8, p9, ⟨j, a, b, c, d, e⟩, -⟩ := h
  refine ⟨j, ?_, b, c, fun q hq => ?_⟩
  · rcases Nat.lt_or_ge j 5 with z | z
    · exact z
    · exact absurd (by rw [c, show j = 5 by omega]; rfl) h5
  · have z := d q (by omega)
    rw [show 4 * q + 20 * k = 20 * k + 4 * q by omega]
    exact ⟨z.1, z.2.2.2.2.1.1, by have := z.2.2.2.2.1.2; omega⟩
theorem ap_m1 {n : Nat} {g : Int32} (h : n < 9000) (hg : -20000 ≤ g.toInt ∧ g.toInt ≤ 100000) : ((g + 1) + nI n).toInt = g.toInt + 1 + (n : Int) := by
  have a : (1 : Int32).toInt = 1 := by decide
  have b := nI_i (n := n) (by omega)
  have c : (g + 1).toInt = g.toInt + 1 := by rw [fb_addI (by rw [a]; omega) (by rw [a]; omega), a]
  rw [fb_addI (by rw [c, b]; omega) (by rw [c, b]; omega), c, b]
theorem ap_w1 {n : Nat} {g : Int32} {x : Int64} (h : n < 9000) (hx : x = g.toInt64) (hg : -20000 ≤ g.toInt ∧ g.toInt ≤ 100000) : ((g + 1) + nI n).toInt64 = (x + (1 : Int64)) + (nI n).toInt64 := by
  have a : (1 : Int64).toInt = 1 := by decide
  have b := nI_i (n := n) (by omega)
  subst hx
  have c : (g.toInt64 + 1).toInt = g.toInt + 1 := by rw [fb_addL (by rw [a, Int32.toInt_toInt64]; omega) (by rw [a, Int32.toInt_toInt64]; omega), a, Int32.toInt_toInt64]
  rw [fa_eq64, Int32.toInt_toInt64, ap_m1 h hg, fb_addL (by rw [c, Int32.toInt_toInt64, b]; omega) (by rw [c, Int32.toInt_toInt64, b]; omega), c, Int32.toInt_toInt64, b]
theorem ap_m0 {n : Nat} (h : n < 9000) : (((-20000 : Int32) + 1) + nI n).toInt = -20000 + 1 + (n : Int) := ap_m1 (g := -20000) h (by decide)
theorem ap_w0 {n : Nat} (h : n < 9000) : (((-20000 : Int32) + 1) + nI n).toInt64 = ((-20000 : Int64) + (1 : Int64)) + (nI n).toInt64 := ap_w1 (g := -20000) h (by decide) (by decide)
theorem ap_1 {j : Nat} (hj : j < 5) : f_X4_addLast_j1_1 (nI j) = nI (j + 1) := by
  unfold f_X4_addLast_j1_1
  rw [if_neg (show ¬ nI j < (0 : Int32) from nI_nlt (a := j) (b := 0) (by omega) (by omega)), if_neg (show ¬ (5 : Int32) ≤ nI j from nI_ge (a := j) (b := 5) (by omega) (by omega))]
  exact nI_add j 1
theorem ap_2 {j : Nat} {g : Nat → Int32} {v : Int32} (hj : j < 5) : f_X4_addLast_j1_2 (nI j) g v = upd g j v := by
  unfold f_X4_addLast_j1_2
  rw [if_neg (show ¬ nI j < (0 : Int32) from nI_nlt (a := j) (b := 0) (by omega) (by omega)), if_neg (show ¬ (5 : Int32) ≤ nI j from nI_ge (a := j) (b := 5) (by omega) (by omega)), nI_clamp (by omega)]
theorem ap_3 {j : Nat} {g : Nat → Int32} {v : Int32} (hj : j < 5) : f_X4_addLast_j1_3 (nI j) g v = upd g j v := ap_2 hj
theorem ap_4 {j : Nat} {g : Nat → Int32} {v : Int32} (hj : j < 5) : f_X4_addLast_j1_4 (nI j) g v = upd g j v := ap_2 hj
theorem ap_5 {j : Nat} {g : Nat → Int32} {v : Int32} (hj : j < 5) : f_X4_addLast_j1_5 (nI j) g v = upd g j v := ap_2 hj
theorem ap_r {j : Nat} {s : LT} {a b c d : Int32} (hs : yl_sn s = nI j) (hj : j < 5) : lr_addPoint s a b c d = nI (j + 1) := by
  show f_X4_addLast_j1_1 (yl_sn s) = _
  rw [hs]
  exact ap_1 hj
theorem ap_q12 {j : Nat} {s : LT} {v : Int32} (hs : yl_sn s = nI j) (hj : j < 5) (h : ∀ q : Nat, q + 1 = j → (yl_gm s q).toInt < v.toInt) : ¬ f_X4_endsBelow_j1_1 (yl_sn s) (yl_gm s) v = (0 : Int32) := by
  rw [hs]
  unfold f_X4_endsBelow_j1_1
  rcases Nat.eq_zero_or_pos j with c | c
  · rw [if_pos (by rw [c]; decide)]; decide
  · obtain ⟨q, rfl⟩ : ∃ q, j = q + 1 := ⟨j - 1, by omega⟩
    have e : (nI (q + 1) - 1).toNatClampNeg = q := by
      rw [show nI (q + 1) - 1 = nI q from (lwSub (a := q + 1) (b := 1) rfl).symm, nI_clamp (by omega)]
    have z := h q rfl
    rw [if_neg (nI_nle (by omega) (by omega)), if_neg (show ¬ (5 : Int32) < nI (q + 1) from nI_nlt (a := 5) (b := q + 1) (by omega) (by omega)), e, if_neg (by rw [fa_le]; omega)]
    decide
theorem ap_q13 {j : Nat} {s : LT} (hs : yl_sn s = nI j) (hj : j < 5) : ¬ f_X5_addPoint_j1_1 (yl_sn s) = (0 : Int32) := by
  rw [hs]
  unfold f_X5_addPoint_j1_1 f_X4_isFull_j1_1
  rw [if_pos (show nI j < (5 : Int32) from nI_lt (a := j) (b := 5) hj (by omega)), if_pos rfl]
  decide
theorem ap_RP {k j : Nat} {s : LT} {v p i d : Int32} {fw fu fg : Nat → Int64} {fn : Nat → Int32} (h : RP k s fw fu fg fn) (h15 : fw (20 * k + 15) = 0) (hs : yl_sn s = nI j) (hj : j < 5) (hg : Gb p i d) (hb : -20000 ≤ v.toInt ∧ v.toInt ≤ -20000 + 9000 * ((j : Int) + 1)) (hu : ∀ q : Nat, q + 1 = j → (yl_gm s q).toInt < v.toInt) :
    RP k (lu_addPoint s v p i d) (vp_updL fw (20 * k + 14) 0) fu (vp_updL (vp_updL (vp_updL (vp_updL fg (4 * j + 20 * k) v.toInt64) (4 * j + 20 * k + 1) p.toInt64) (4 * j + 20 * k + 2) i.toInt64) (4 * j + 20 * k + 3) d.toInt64) (upd fn k (nI (j + 1))) := by
  obtain ⟨p1, p2, p3, p4, p5, p6, p7, p8, p9, ⟨j2, c1, c2, c3, c4, c5⟩, p11, p12, p13, p14, p15⟩ := h
  have ej : j2 = j := (nI_eq (by omega) (by omega)).mp (c2.symm.trans hs)
  subst ej
  refine RP_addPoint ?_
  rw [hs, ap_1 hj, ap_2 hj, ap_3 hj, ap_4 hj, ap_5 hj]
  refine ⟨RPl_w p1 (by intro i hi; repeat rw [ul_ne _ _ (by omega)]), RLi_w p2 (by intro i hi; repeat rw [ul_ne _ _ (by omega)]), RHa_w p3 (by intro i hi; repeat rw [ul_ne _ _ (by omega)]), RTi_w p4 (by intro i hi; repeat rw [ul_ne _ _ (by omega)]), RMe_w p5 (by intro i hi; repeat rw [ul_ne _ _ (by omega)]), RRe_w p6 (by intro i hi; repeat rw [ul_ne _ _ (by omega)]) (u_ne _ _ (by omega)), p7, p8, p9, ⟨j2 + 1, by omega, rfl, u_eq _ _ _, fun q hq => ?_, fun q hq => ?_⟩, p11, RBu_0 (by rw [ul_ne _ _ (by omega)]; exact h15), RIn_0 (ul_eq _ _ _), p14, p15⟩
  · rcases Nat.lt_or_ge q j2 with z | z
    · rw [u_ne _ _ (by omega), u_ne _ _ (by omega), u_ne _ _ (by omega), u_ne _ _ (by omega)]
      obtain ⟨d1, d2, d3, d4, d5, d6⟩ := c4 q z
      refine ⟨?_, ?_, ?_, ?_, d5, d6⟩
      · rw [ul_ne _ _ (by omega), ul_ne _ _ (by omega), ul_ne _ _ (by omega), ul_ne _ _ (by omega)]; exact d1
      · rw [ul_ne _ _ (by omega), ul_ne _ _ (by omega), ul_ne _ _ (by omega), ul_ne _ _ (by omega)]; exact d2
      · rw [ul_ne _ _ (by omega), ul_ne _ _ (by omega), ul_ne _ _ (by omega), ul_ne _ _ (by omega)]; exact d3
      · rw [ul_ne _ _ (by omega), ul_ne _ _ (by omega), ul_ne _ _ (by omega), ul_ne _ _ (by omega)]; exact d4
    · obtain rfl : q = j2 := by omega
      rw [show 20 * k + 4 * q = 4 * q + 20 * k by omega, u_eq, u_eq, u_eq, u_eq]
      refine ⟨?_, ?_, ?_, ?_, hb, hg⟩
      · rw [ul_ne _ _ (by omega), ul_ne _ _ (by omega), ul_ne _ _ (by omega), ul_eq]
      · rw [ul_ne _ _ (by omega), ul_ne _ _ (by omega), ul_eq]
      · rw [ul_ne _ _ (by omega), ul_eq]
      · rw [ul_eq]
  · rcases Nat.lt_or_ge (q + 1) j2 with z | z
    · rw [u_ne _ _ (by omega), u_ne _ _ (by omega)]
      exact c5 q z
    · obtain rfl : q + 1 = j2 := by omega
      rw [u_ne _ _ (by omega), u_eq]
      exact hu q rfl
/-- a number below nought, by its rest -/
theorem ng_mod {n : Nat} (h : n < 2 ^ 30) : ((-(nI n)) - (-(nI n)) / (4000 : Int32) * (4000 : Int32)).toInt = -((n % 4000 : Nat) : Int) := by
  have a := nI_i (n := n) (by omega)
  have b : (4000 : Int32).toInt = 4000 := by decide
  have c : (-(nI n)).toInt = -(n : Int) := by rw [fb_negI (by rw [a]; omega), a]
  have d : ((-(nI n)) / (4000 : Int32)).toInt = -((n / 4000 : Nat) : Int) := by
    rw [Int32.toInt_div_of_ne_right _ _ (by decide), c, b, Int.neg_tdiv, Int.tdiv_eq_ediv_of_nonneg (by omega)]
    rfl
  have e : ((-(nI n)) / (4000 : Int32) * (4000 : Int32)).toInt = -((n / 4000 : Nat) : Int) * 4000 := by
    rw [fb_mulI (by rw [d, b]; omega) (by rw [d, b]; omega), d, b]
  rw [fb_subI (by rw [c, e]; omega) (by rw [c, e]; omega), c, e]
  omega
theorem lm_i {x : Int32} {n : Nat} (hx : -100000 ≤ x.toInt ∧ x.toInt ≤ 100000) (hn : n < 60000) : (x + nI n).toInt = x.toInt + (n : Int) := by
  have b := nI_i (n := n) (by omega)
  rw [fb_addI (by rw [b]; omega) (by rw [b]; omega), b]
theorem lm_w {x : Int32} {n : Nat} (hx : -100000 ≤ x.toInt ∧ x.toInt ≤ 100000) (hn : n < 60000) : (x + nI n).toInt64 = x.toInt64 + (nI n).toInt64 := by
  have b := nI_i (n := n) (by omega)
  rw [fa_eq64, Int32.toInt_toInt64, lm_i hx hn, fb_addL (by rw [Int32.toInt_toInt64, Int32.toInt_toInt64, b]; omega) (by rw [Int32.toInt_toInt64, Int32.toInt_toInt64, b]; omega), Int32.toInt_toInt64, Int32.toInt_toInt64, b]
theorem lm_l {x : Int32} {n : Nat} (hx : -100000 ≤ x.toInt ∧ x.toInt ≤ 100000) (hn : n < 60000) : Ilim x (x + nI n) := by
  unfold Ilim
  rw [lm_i hx hn]
  omega
