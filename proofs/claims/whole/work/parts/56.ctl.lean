theorem ix3a (k q : Nat) (hk : k < 3) (hq : q ≤ 3) : (((3 : Int32) * (((5 : Int32) * nI k) + nI q)) + (3 : Int32)).toNatClampNeg = 3 * (5 * k + (q + 1)) := by
  rcases (show k = 0 ∨ k = 1 ∨ k = 2 by omega) with rfl | rfl | rfl <;> rcases (show q = 0 ∨ q = 1 ∨ q = 2 ∨ q = 3 by omega) with rfl | rfl | rfl | rfl <;> rfl
theorem ix3b (k q : Nat) (hk : k < 3) (hq : q ≤ 3) : ((((3 : Int32) * (((5 : Int32) * nI k) + nI q)) + (3 : Int32)) + (1 : Int32)).toNatClampNeg = 3 * (5 * k + (q + 1)) + 1 := by
  rcases (show k = 0 ∨ k = 1 ∨ k = 2 by omega) with rfl | rfl | rfl <;> rcases (show q = 0 ∨ q = 1 ∨ q = 2 ∨ q = 3 by omega) with rfl | rfl | rfl | rfl <;> rfl
theorem ix3c (k q : Nat) (hk : k < 3) (hq : q ≤ 3) : ((((3 : Int32) * (((5 : Int32) * nI k) + nI q)) + (3 : Int32)) + (2 : Int32)).toNatClampNeg = 3 * (5 * k + (q + 1)) + 2 := by
  rcases (show k = 0 ∨ k = 1 ∨ k = 2 by omega) with rfl | rfl | rfl <;> rcases (show q = 0 ∨ q = 1 ∨ q = 2 ∨ q = 3 by omega) with rfl | rfl | rfl | rfl <;> rfl
theorem i3n (k : Nat) (hk : k < 3) : ((3 : Int32) * nI k).toNatClampNeg = 3 * k ∧ (((3 : Int32) * nI k) + (1 : Int32)).toNatClampNeg = 3 * k + 1 ∧ (((3 : Int32) * nI k) + (2 : Int32)).toNatClampNeg = 3 * k + 2 := by
  rcases (show k = 0 ∨ k = 1 ∨ k = 2 by omega) with rfl | rfl | rfl <;> exact ⟨rfl, rfl, rfl⟩
/-- the gains and the integral behind the schedule -/
theorem sg_all {k : Nat} {n : Int32} (hk3 : k < 3) (hn : n = nI k) {kp ki kd sn : Int32} {gm gp gi gd : Nat → Int32} {me be ga sp ig at_ th : Nat → Int64} {pts : Nat → Int32} {ksp kig pme pmb : Int64} (hs : Rs k (pts n.toNatClampNeg) at_ th sn gm gp gi gd) (g0 : ga ((3 : Int32) * n).toNatClampNeg = kp.toInt64) (g1 : ga (((3 : Int32) * n) + (1 : Int32)).toNatClampNeg = ki.toInt64) (g2 : ga (((3 : Int32) * n) + (2 : Int32)).toNatClampNeg = kd.toInt64) (hb : Gb kp ki kd) (hm : me n.toNatClampNeg = pme) (hbe : be n.toNatClampNeg = pmb) (hsp : sp n.toNatClampNeg = ksp) (hig : ig n.toNatClampNeg = kig) :
    (f_X6_schedules_m_gain me ga pts at_ th n ((3 : Int32) * n).toNatClampNeg = (f_X1_actAutomatically_j1_1 kp pme sn gm gp).toInt64 ∧ f_X6_schedules_m_gain me ga pts at_ th n (((3 : Int32) * n) + (1 : Int32)).toNatClampNeg = (f_X1_actAutomatically_j1_2 ki pme sn gm gi).toInt64 ∧ f_X6_schedules_m_gain me ga pts at_ th n (((3 : Int32) * n) + (2 : Int32)).toNatClampNeg = (f_X1_actAutomatically_j1_3 kd pme sn gm gd).toInt64) ∧ Gb (f_X1_actAutomatically_j1_1 kp pme sn gm gp) (f_X1_actAutomatically_j1_2 ki pme sn gm gi) (f_X1_actAutomatically_j1_3 kd pme sn gm gd) ∧ f_X6_schedules_m_integral me be ga sp ig pts at_ th n n.toNatClampNeg = f_X1_actAutomatically_j1_4 kp kd ksp kig pme pmb sn gm gp gd ∧ (∀ q : Nat, ¬ q = n.toNatClampNeg → f_X6_schedules_m_integral me be ga sp ig pts at_ th n q = ig q) := by
  obtain ⟨j, hj, hsn, hpt, hp, hr⟩ := hs
  subst hsn
  have hpe : ∀ m : Nat, m ≤ 5 → (nI m ≤ 0 ↔ m ≤ 0) := fun m hm => nI_leI (by omega) (by decide)
  unfold f_X6_schedules_m_gain f_X6_schedules_m_integral f_X1_actAutomatically_j1_1 f_X1_actAutomatically_j1_2 f_X1_actAutomatically_j1_3 f_X1_actAutomatically_j1_4 f_X4_hasPoints_j1_1
  rw [hpt]
  by_cases j0 : j ≤ 0
  · have e0 : j = 0 := by omega
    subst e0
    rw [if_neg (show ¬ (0 : Int32) ≤ nI 0 - 1 by decide), if_neg (show ¬ (0 : Int32) ≤ nI 0 - 1 by decide)]
    rw [if_pos (show nI 0 ≤ 0 by decide), if_pos rfl, if_pos rfl, if_pos rfl, if_pos rfl]
    exact ⟨⟨g0, g1, g2⟩, hb, hig, fun _ _ => rfl⟩
  · have hpos : (0 : Int32) ≤ nI j - 1 := by
      rw [nIm (by omega) hj, fa_le, nI_toInt (by omega)]
      have : (0 : Int32).toInt = 0 := rfl
      omega
    rw [if_pos hpos, if_pos hpos, if_neg (fun h => j0 ((hpe j hj).mp h)), if_neg (by decide), if_neg (by decide), if_neg (by decide), if_neg (by decide)]
    obtain ⟨u, hu, hup, hu1, hu2⟩ := sc_u hj gm pme
    obtain ⟨q, hq, hqc, hq1, hq2⟩ := sc_q (me := me) (at_ := at_) (by omega : 1 ≤ j) hj hk3 hn hpt
    rw [hm] at hq1 hq2
    have h2 : f_X6_schedules_j2_1 me pts at_ n = if nI (j - 1) ≤ nI q then 0 else if pme ≤ at_ (5 * k + q) then 0 else 1 := by
      unfold f_X6_schedules_j2_1
      rw [hqc, hpt, nIm (by omega) hj, hm, hn, ix5 k q hk3 (by omega)]
    obtain ⟨fl, hfl⟩ : ∃ z, z = f_X6_schedules_j2_1 me pts at_ n := ⟨_, rfl⟩
    rw [← hfl] at h2
    have hq3 : ¬ fl = 0 → q ≤ 3 := fun h => by
      rcases Nat.lt_or_ge q (j - 1) with c | c
      · omega
      · exact absurd (by rw [h2, if_pos (nI_le c (by omega))]) h
    have h3 : f_X6_schedules_j3_1 me pts at_ n = if fl = 0 then 0 else pme - at_ (5 * k + q) := by
      unfold f_X6_schedules_j3_1
      rw [← hfl, hqc, hm, hn, ix5 k q hk3 (by omega)]
    have h4 : f_X6_schedules_j4_1 me pts at_ n = if fl = 0 then 1 else at_ (5 * k + (q + 1)) - at_ (5 * k + q) := by
      unfold f_X6_schedules_j4_1
      rw [← hfl, hqc]
      by_cases c : fl = 0
      · rw [if_pos c, if_pos c]
      · rw [if_neg c, if_neg c, hn, ix5 k q hk3 (by omega), ix5p k q hk3 (hq3 c)]
    have h5 : (f_X6_schedules_j5_1 me pts at_ n).toNatClampNeg = (if fl = 0 then 3 * (5 * k + q) + 0 else 3 * (5 * k + (q + 1)) + 0) ∧ ((f_X6_schedules_j5_1 me pts at_ n) + (1 : Int32)).toNatClampNeg = (if fl = 0 then 3 * (5 * k + q) + 1 else 3 * (5 * k + (q + 1)) + 1) ∧ ((f_X6_schedules_j5_1 me pts at_ n) + (2 : Int32)).toNatClampNeg = (if fl = 0 then 3 * (5 * k + q) + 2 else 3 * (5 * k + (q + 1)) + 2) := by
      unfold f_X6_schedules_j5_1
      rw [← hfl, hqc, hn]
      by_cases c : fl = 0
      · rw [if_pos c, if_pos c, if_pos c, if_pos c]
        exact ⟨ix15 k q hk3 (by omega), ix151 k q hk3 (by omega), ix152 k q hk3 (by omega)⟩
      · rw [if_neg c, if_neg c, if_neg c, if_neg c]
        exact ⟨ix3a k q hk3 (hq3 c), ix3b k q hk3 (hq3 c), ix3c k q hk3 (hq3 c)⟩
    have ha : ∀ i : Nat, i < j → at_ (5 * k + i) = (gm i).toInt64 ∧ -1000000 ≤ (gm i).toInt ∧ (gm i).toInt ≤ 1000000 := fun i hi => ⟨(hp i hi).1, (hp i hi).2.2.2.2.1, (hp i hi).2.2.2.2.2.1⟩
    have t0 : ∀ i : Nat, i < j → th (3 * (5 * k + i) + 0) = (gp i).toInt64 ∧ -20000 ≤ (gp i).toInt ∧ (gp i).toInt ≤ 20000 := fun i hi => by
      have e := (hp i hi).2.2.2.2.2.2
      exact ⟨(hp i hi).2.1, e.1, e.2.1⟩
    have t1 : ∀ i : Nat, i < j → th (3 * (5 * k + i) + 1) = (gi i).toInt64 ∧ -5000 ≤ (gi i).toInt ∧ (gi i).toInt ≤ 5000 := fun i hi => by
      have e := (hp i hi).2.2.2.2.2.2
      exact ⟨(hp i hi).2.2.1, e.2.2.1, e.2.2.2.1⟩
    have t2 : ∀ i : Nat, i < j → th (3 * (5 * k + i) + 2) = (gd i).toInt64 ∧ -50000 ≤ (gd i).toInt ∧ (gd i).toInt ≤ 50000 := fun i hi => by
      have e := (hp i hi).2.2.2.2.2.2
      exact ⟨(hp i hi).2.2.2.1, e.2.2.2.2.1, e.2.2.2.2.2⟩
    have s0 := sg_row (g := 0) (B := 20000) (th := th) (gg := gp) (by omega : 1 ≤ j) hj hu hu1 hu2 hq hq1 hq2 ha hr t0 (by decide) h2
    have s1 := sg_row (g := 1) (B := 5000) (th := th) (gg := gi) (by omega : 1 ≤ j) hj hu hu1 hu2 hq hq1 hq2 ha hr t1 (by decide) h2
    have s2 := sg_row (g := 2) (B := 50000) (th := th) (gg := gd) (by omega : 1 ≤ j) hj hu hu1 hu2 hq hq1 hq2 ha hr t2 (by decide) h2
    obtain ⟨i30, i31, i32⟩ := i3n k hk3
    rw [hup]
    have hGb : Gb (f_X4_gainAt_r (nI j) gm gp (nI u) pme) (f_X4_gainAt_r (nI j) gm gi (nI u) pme) (f_X4_gainAt_r (nI j) gm gd (nI u) pme) := ⟨s0.2.1, s0.2.2, s1.2.1, s1.2.2, s2.2.1, s2.2.2⟩
    have j15 : ((3 : Int32) * (((5 : Int32) * n) + nI q)).toNatClampNeg = 3 * (5 * k + q) + 0 := by rw [hn]; exact ix15 k q hk3 (by omega)
    have j151 : (((3 : Int32) * (((5 : Int32) * n) + nI q)) + (1 : Int32)).toNatClampNeg = 3 * (5 * k + q) + 1 := by rw [hn]; exact ix151 k q hk3 (by omega)
    have j152 : (((3 : Int32) * (((5 : Int32) * n) + nI q)) + (2 : Int32)).toNatClampNeg = 3 * (5 * k + q) + 2 := by rw [hn]; exact ix152 k q hk3 (by omega)
    rw [hqc, h3, h4, h5.1, h5.2.1, h5.2.2, j15, j151, j152, ← s0.1, ← s1.1, ← s2.1]
    refine ⟨?_, hGb, ?_, ?_⟩
    · unfold f_X6_changes_m_gain
      rw [hn, i30, i31, i32]
      refine ⟨?_, ?_, ?_⟩
      · rw [ul_ne _ _ (by omega), ul_ne _ _ (by omega), ul_eq]
      · rw [ul_ne _ _ (by omega), ul_eq]
      · rw [ul_eq]
    · rw [chg_eq hig g0 g2 hsp hm hbe hb hGb, ul_eq]
    · intro z hz
      unfold f_X6_changes_m_integral
      rw [ul_ne _ _ hz]
/-- an automatic sample: the class's and the reference's -/
theorem ct_all {n : Int32} {p i d lo hi gu sh khe kgo : Int32} {sp ig' pme pmb ksu kle klr : Int64} {me be ga low high spf ig at_ th su le lr : Nat → Int64} {guard share pts held go : Nat → Int32}
    (G0 : f_X6_schedules_m_gain me ga pts at_ th n ((3 : Int32) * n).toNatClampNeg = p.toInt64) (G1 : f_X6_schedules_m_gain me ga pts at_ th n (((3 : Int32) * n) + (1 : Int32)).toNatClampNeg = i.toInt64) (G2 : f_X6_schedules_m_gain me ga pts at_ th n (((3 : Int32) * n) + (2 : Int32)).toNatClampNeg = d.toInt64) (IG : f_X6_schedules_m_integral me be ga spf ig pts at_ th n n.toNatClampNeg = ig') (hsp : spf n.toNatClampNeg = sp) (hme : me n.toNatClampNeg = pme) (hbe : be n.toNatClampNeg = pmb) (hlo : low n.toNatClampNeg = lo.toInt64) (hhi : high n.toNatClampNeg = hi.toInt64) (hgu : guard n.toNatClampNeg = gu) (hsh : share n.toNatClampNeg = sh) (hl : Ilim lo hi) (hsu : su n.toNatClampNeg = ksu) (hle : le n.toNatClampNeg = kle) (hlr : lr n.toNatClampNeg = klr) (hgo : go n.toNatClampNeg = kgo) (hhe : held n.toNatClampNeg = khe) :
    f_X6_controls_r me be ga low high spf ig pts at_ th n = f_X0_automaticSample_r p i d lo hi sp ig' pme pmb ∧ f_X6_controls_j2_1 me be ga low high spf ig guard share pts at_ th n n.toNatClampNeg = f_X0_automaticSample_kig p i d lo hi gu sh sp ig' pme pmb ∧ f_X6_controls_j3_1 me be ga spf ig su le lr go pts at_ th n = f_X0_automaticSample_ksu p i d sp ig' ksu kle klr kgo pme pmb ∧ held n.toNatClampNeg + f_X6_controls_j4_1 me be ga low high spf ig pts at_ th n = f_X0_automaticSample_j1_1 p i d lo hi khe sp ig' pme pmb := by
  unfold f_X6_controls_r f_X6_controls_j2_1 f_X6_controls_v4 f_X6_controls_j1_1 f_X6_controls_v1 f_X6_controls_v2 f_X6_controls_v3 f_X6_controls_j3_1 f_X6_controls_j4_1 f_X0_automaticSample_r f_X0_automaticSample_kig f_X0_automaticSample_ksu f_X0_automaticSample_j1_1 f_X0_guardAgainstWindup_j3_1 f_X0_guardAgainstWindup_j2_1 f_X0_guardAgainstWindup_j1_1 f_X0_countIncrements_j1_1 f_X6_error_r f_X6_rate_r f_X0_error_r f_X0_rate_r
  simp only [ul_eq, G0, G1, G2, IG, hsp, hme, hbe, hlo, hhi, hgu, hsh, hsu, hle, hlr, hgo, hhe, wl_eq hl, fd_eq]
  generalize hA : p.toInt64 * (sp - pme) + (ig' + i.toInt64 * (sp - pme)) + d.toInt64 * (pmb - pme) = A
  generalize hWd : f_X6_floor_j1_1 A 1000 = w
  generalize hE : sp - pme = e1
  refine ⟨trivial, ?_, ?_, ?_⟩
  · by_cases a : gu = 1
    · have a2 : ¬ gu = 2 := by rw [a]; decide
      simp only [if_pos a, if_neg a2]
      by_cases b1 : w ≤ hi.toInt64 <;> by_cases b2 : lo.toInt64 ≤ w <;> by_cases b3 : (0 : Int64) ≤ e1 <;> by_cases b4 : (0 : Int64) < e1 <;> simp [b1, b2, b3, b4, ul_eq]
    · by_cases a2 : gu = 2
      · simp only [if_neg a, if_pos a2, ul_eq]
      · simp only [if_neg a, if_neg a2, ul_eq]
  · by_cases a : kgo = 0
    · simp only [if_pos a]
    · simp only [if_neg a]
      rw [Int64.add_assoc, Int64.add_assoc, Int64.add_assoc]
  · by_cases a : f_X6_within_j1_1 w lo.toInt64 hi.toInt64 = w
    · simp only [if_pos a]
      exact Int32.add_zero khe
    · simp only [if_neg a]
/-- what an automatic sample leaves of other loops' integrals -/
theorem ct_ne {n : Int32} {j : Nat} {me be ga low high spf ig at_ th : Nat → Int64} {guard share pts : Nat → Int32} (hj : ¬ j = n.toNatClampNeg) : f_X6_controls_j2_1 me be ga low high spf ig guard share pts at_ th n j = ig j := by
  have h0 : f_X6_schedules_m_integral me be ga spf ig pts at_ th n j = ig j := by
    unfold f_X6_schedules_m_integral f_X6_changes_m_integral
    split
    · exact ul_ne _ _ hj
    · rfl
  have h1 : ∀ v : Int64, vp_updL (f_X6_schedules_m_integral me be ga spf ig pts at_ th n) n.toNatClampNeg v j = ig j := fun v => (ul_ne _ _ hj).trans h0
  have h2 : ∀ v w : Int64, vp_updL (vp_updL (f_X6_schedules_m_integral me be ga spf ig pts at_ th n) n.toNatClampNeg v) n.toNatClampNeg w j = ig j := fun v w => (ul_ne _ _ hj).trans (h1 v)
  have h3 : f_X6_controls_j1_1 me be ga low high spf ig guard pts at_ th n j = ig j := by
    unfold f_X6_controls_j1_1 f_X6_controls_v1 f_X6_controls_v2 f_X6_controls_v3
    split
    · split
      · split
        · exact h1 _
        · split
          · exact h1 _
          · exact h2 _ _
      · split
        · exact h2 _ _
        · split
          · exact h1 _
          · split
            · exact h1 _
            · exact h2 _ _
    · exact h1 _
  unfold f_X6_controls_j2_1
  split
  · exact (ul_ne _ _ hj).trans h3
  · exact h3
