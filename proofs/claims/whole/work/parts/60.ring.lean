theorem fm_1 : ∀ a : Fin 11, f_J9_floorMod_7cf53_r (nI a.1 + (1 : Int32)) (11 : Int32) = nI ((a.1 + 1) % 11) := by decide +kernel
theorem fm_2 : ∀ a d : Fin 11, f_J9_floorMod_7cf53_r (nI a.1 - nI d.1) (11 : Int32) = nI ((a.1 + 11 - d.1) % 11) := by decide +kernel
theorem xd_0 : ∀ d : Fin 11, ((0 : Int32) + nI d.1).toNatClampNeg = 11 * 0 + d.1 := by decide +kernel
theorem xd_1 : ∀ d : Fin 11, ((11 : Int32) + nI d.1).toNatClampNeg = 11 * 1 + d.1 := by decide +kernel
theorem xd_2 : ∀ d : Fin 11, ((22 : Int32) + nI d.1).toNatClampNeg = 11 * 2 + d.1 := by decide +kernel
/-- the ring of outputs, one sample on -/
theorem ring {f f2 : Nat → Int64} {k : Nat} {lt : Int32} {po : Nat → Int64} {ou r : Int64} (hp : Rp f k lt po ou) (h0 : f2 (11 * k) = r) (hs : ∀ i : Nat, i < 10 → f2 (11 * k + (i + 1)) = f (11 * k + i)) : Rp f2 k (f_X2_goOn_plt lt) (f_X2_goOn_po lt po r) r ∧ ∀ d : Nat, d ≤ 10 → (vp_updL po (f_J9_floorMod_7cf53_r (lt + (1 : Int32)) (11 : Int32)).toNatClampNeg r) (f_J9_floorMod_7cf53_r ((f_J9_floorMod_7cf53_r (lt + (1 : Int32)) (11 : Int32)) - nI d) (11 : Int32)).toNatClampNeg = f2 (11 * k + d) := by
  obtain ⟨a, ha, rfl, hou, hi⟩ := hp
  have e1 : f_J9_floorMod_7cf53_r (nI a + (1 : Int32)) (11 : Int32) = nI ((a + 1) % 11) := fm_1 ⟨a, ha⟩
  have hb : (a + 1) % 11 < 11 := Nat.mod_lt _ (by decide)
  have e2 : (nI ((a + 1) % 11)).toNatClampNeg = (a + 1) % 11 := nI_clamp (by omega)
  have key : ∀ i : Nat, i < 11 → f2 (11 * k + i) = vp_updL po ((a + 1) % 11) r (((a + 1) % 11 + 11 - i) % 11) := by
    intro i hi2
    rcases Nat.eq_zero_or_pos i with c | c
    · subst c
      rw [show ((a + 1) % 11 + 11 - 0) % 11 = (a + 1) % 11 by omega, ul_eq]
      exact h0
    · rw [ul_ne _ _ (by omega), show ((a + 1) % 11 + 11 - i) % 11 = (a + 11 - (i - 1)) % 11 by omega, ← hi (i - 1) (by omega), ← hs (i - 1) (by omega), show i - 1 + 1 = i by omega]
  constructor
  · unfold f_X2_goOn_plt f_X2_goOn_po
    rw [e1, e2]
    exact ⟨(a + 1) % 11, hb, rfl, h0.symm, key⟩
  · intro d hd
    rw [e1, e2]
    have e3 : f_J9_floorMod_7cf53_r (nI ((a + 1) % 11) - nI d) (11 : Int32) = nI (((a + 1) % 11 + 11 - d) % 11) := fm_2 ⟨(a + 1) % 11, hb⟩ ⟨d, by omega⟩
    rw [e3, show (nI (((a + 1) % 11 + 11 - d) % 11)).toNatClampNeg = ((a + 1) % 11 + 11 - d) % 11 from nI_clamp (by omega)]
    exact (key d (by omega)).symm
theorem turn_all {k : Nat} {n : Int32} {s : LT} {M : MT} {lou0 lw ksp2 : Int64} {lmo2 lma2 : Int32} (hk3 : k < 3) (hn : n = nI k) (hR : R1 k s M) (hlw : (yl_lmo s) = 2 → lw = lou0) (hmd : Imd (yl_lmo s)) (hst : f_X6_starves_j1_1 (ym_m_mode M) (ym_m_hasMaster M) n = if lma2 = 0 then 0 else if lmo2 = 2 then 0 else 1) (hsp2 : ¬ f_X6_starves_j1_1 (ym_m_mode M) (ym_m_hasMaster M) n = 0 → ym_m_setpoint M (n + (1 : Int32)).toNatClampNeg = ksp2 ∧ ¬ (n + (1 : Int32)).toNatClampNeg = n.toNatClampNeg) : pr n lw M = yl_lou (tn1 s lou0 lmo2 lma2 ksp2) ∧ R1 k (tn1 s lou0 lmo2 lma2 ksp2) (pq n lw M) := by
  have hF : ∀ x : Int32, x = 1 ∨ x = 2 → f_X1_isStarvedBy_j2_1 x lmo2 lma2 = f_X6_starves_j1_1 (ym_m_mode M) (ym_m_hasMaster M) n := fun x hx => by
    rw [hst]
    unfold f_X1_isStarvedBy_j2_1 f_X1_isStarvedBy_j1_1
    rcases hx with rfl | rfl <;> rfl
  by_cases h0 : (yl_lmo s) = 0
  · exact turn_H hk3 hn hR hlw h0
  by_cases h3 : (yl_lmo s) = 3
  · exact turn_R hk3 hn hR hlw h3
  have h12 : (yl_lmo s) = 1 ∨ (yl_lmo s) = 2 := by
    rcases hmd with q | q | q | q
    · exact absurd q h0
    · exact Or.inl q
    · exact Or.inr q
    · exact absurd q h3
  have e := hF _ h12
  by_cases hS : f_X6_starves_j1_1 (ym_m_mode M) (ym_m_hasMaster M) n = 0
  · exact turn_A hk3 hn hR hlw h0 h3 (by rw [e]; exact hS) hS
  · exact turn_S hk3 hn hR hlw h0 h3 (by rw [e]; exact hS) hS (hsp2 hS)
theorem tn0_m {s : LT} {lmo2 lma2 : Int32} {ksp2 : Int64} (h : ¬ (yl_lmo s) = 2) : ¬ yl_lmo (tn0 s lmo2 lma2 ksp2) = 2 := by
  show ¬ f_X5_takeTurn_0_j2_1 _ _ _ _ _ _ _ _ _ _ = 2
  unfold f_X5_takeTurn_0_j2_1 f_X1_actAsRelay_j1_1
  split
  · split
    · exact h
    · split
      · split
        · exact h
        · decide
      · exact h
  · exact h
theorem wd_ne {k : Nat} {n : Int32} (hk3 : k < 3) (hn : n = nI k) {me at_ th : Nat → Int64} {pts : Nat → Int32} {sn : Int32} {gm gp gi gd : Nat → Int32} (hs : Rs k (pts n.toNatClampNeg) at_ th sn gm gp gi gd) : ¬ f_X6_schedules_j4_1 me pts at_ n = 0 := by
  obtain ⟨j, hj, hsn, hpt, hp, hr⟩ := hs
  have w64 : ∀ x : Int32, x.toInt64.toInt = x.toInt := fun x => Int32.toInt_toInt64 x
  by_cases j0 : j ≤ 0
  · have e0 : j = 0 := by omega
    subst e0
    unfold f_X6_schedules_j4_1 f_X6_schedules_j2_1 f_X6_schedules_j1_1
    rw [hpt, if_pos (show nI 0 - (1 : Int32) ≤ 0 by decide), if_pos (show nI 0 - (1 : Int32) ≤ 0 by decide), if_pos rfl]
    decide
  · obtain ⟨q, hq, hqc, hq1, hq2⟩ := sc_q (me := me) (at_ := at_) (by omega : 1 ≤ j) hj hk3 hn hpt
    unfold f_X6_schedules_j4_1
    by_cases c : f_X6_schedules_j2_1 me pts at_ n = 0
    · rw [if_pos c]; decide
    · rw [if_neg c]
      have hql : q < j - 1 := by
        rcases Nat.lt_or_ge q (j - 1) with d | d
        · exact d
        · refine absurd ?_ c
          unfold f_X6_schedules_j2_1
          rw [hqc, hpt, nIm (by omega) hj, if_pos (nI_le d (by omega))]
      rw [hqc, hn, ix5 k q hk3 (by omega), ix5p k q hk3 (by omega), (hp q (by omega)).1, (hp (q + 1) (by omega)).1]
      have r1 := hr q (by omega)
      have b1 := (hp q (by omega)).2.2.2.2
      have b2 := (hp (q + 1) (by omega)).2.2.2.2
      rw [fa_eq64, fb_subL (by rw [w64, w64]; omega) (by rw [w64, w64]; omega), w64, w64]
      have z : (0 : Int64).toInt = 0 := rfl
      omega
