theorem nar01 {x : Int32} (h : x = 0 ∨ x = 1) : vp_nar .boolean x = x := by rcases h with rfl | rfl <;> rfl
/-- up or down, the class's and the reference's -/
theorem up_eq {me sp : Nat → Int64} {ba up : Nat → Int32} {n rba rup : Int32} {ksp pme : Int64} (hsp : sp n.toNatClampNeg = ksp) (hme : me n.toNatClampNeg = pme) (hba : ba n.toNatClampNeg = rba) (hup : up n.toNatClampNeg = rup) (h01 : Ist rup) : f_X6_relays_j1_1 me sp ba up n = f_X3_sample_j1_1 rba rup (f_X0_error_r ksp pme) ∧ Ist (f_X3_sample_j1_1 rba rup (f_X0_error_r ksp pme)) := by
  unfold f_X6_relays_j1_1 f_X3_sample_j1_1 f_X6_error_r f_X0_error_r
  rw [hsp, hme, hba, hup]
  generalize ksp - pme = e1
  by_cases a : rba.toInt64 < e1
  · have a2 : ¬ e1 ≤ rba.toInt64 := by rw [fa_le64]; rw [fa_lt64] at a; omega
    rw [if_pos a, if_neg a2]
    exact ⟨rfl, Or.inr rfl⟩
  · have a2 : e1 ≤ rba.toInt64 := by rw [fa_le64]; rw [fa_lt64] at a; omega
    rw [if_neg a, if_pos a2]
    by_cases b : e1 < (-rba).toInt64
    · have b2 : ¬ (-rba).toInt64 ≤ e1 := by rw [fa_le64]; rw [fa_lt64] at b; omega
      rw [if_pos b, if_neg b2]
      exact ⟨rfl, Or.inl rfl⟩
    · have b2 : (-rba).toInt64 ≤ e1 := by rw [fa_le64]; rw [fa_lt64] at b; omega
      rw [if_neg b, if_pos b2]
      rcases h01 with c | c
      · rw [if_pos c, c]; exact ⟨rfl, Or.inl rfl⟩
      · rw [if_neg (by rw [c]; decide), c]; exact ⟨rfl, Or.inr rfl⟩
theorem neg64 {h : Int32} (h0 : 0 ≤ h.toInt) : (-h).toInt64 = -(h.toInt64) := by
  have e := fb_rng h
  rw [fa_eq64, Int32.toInt_toInt64, fb_negI (by omega), Int64.toInt_neg, Int32.toInt_toInt64, fb_bmodL (by omega) (by omega)]
theorem ri4 {x : Int32} (h0 : 0 ≤ x.toInt) (h3 : x.toInt ≤ 3) : (x + 1 < 4 ↔ ¬ x + 1 = 4) ∧ (x + 1).toInt = x.toInt + 1 := by
  have q1 : (1 : Int32).toInt = 1 := rfl
  have q4 : (4 : Int32).toInt = 4 := rfl
  have e : (x + 1).toInt = x.toInt + 1 := by rw [fb_addI (by omega) (by omega), q1]
  rw [fa_lt, fa_eq, e, q4]
  omega
theorem sa4 {x : Int32} (h0 : 0 ≤ x.toInt) (h3 : x.toInt ≤ 399) : (x + 1 < 400 ↔ ¬ x + 1 = 400) ∧ (x + 1).toInt = x.toInt + 1 := by
  have q1 : (1 : Int32).toInt = 1 := rfl
  have q4 : (400 : Int32).toInt = 400 := rfl
  have e : (x + 1).toInt = x.toInt + 1 := by rw [fb_addI (by omega) (by omega), q1]
  rw [fa_lt, fa_eq, e, q4]
  omega
theorem dv_2 {x : Int32} (h : 0 ≤ x.toInt) : (x / 2).toInt = x.toInt / 2 := by
  rw [Int32.toInt_div_of_ne_right _ _ (by decide), Int.tdiv_eq_ediv_of_nonneg h]
  rfl
section RL
variable {n : Int32} {kp kd klo khi rpr rpe rhe rba rup rsa rri rse : Int32} {ksp kig pme pmb rsw rce rgr rle : Int64} {me be ga low high sp ig ce gr le sw : Nat → Int64} {ex he ba up go ri se pe md gs : Nat → Int32}
theorem rl_all (hsp : sp n.toNatClampNeg = ksp) (hme : me n.toNatClampNeg = pme) (hba : ba n.toNatClampNeg = rba) (hup : up n.toNatClampNeg = rup) (h01 : Ist rup) (hex : ex n.toNatClampNeg = rpr) (hgo : go n.toNatClampNeg = rsa) (hri : ri n.toNatClampNeg = rri) (hse : se n.toNatClampNeg = rse) (hgr : gr n.toNatClampNeg = rgr) (hle : le n.toNatClampNeg = rle) (hpe : pe n.toNatClampNeg = rpe) (hsw : sw n.toNatClampNeg = rsw)
    (h1 : rpr = 1) (s0 : 0 ≤ rsa.toInt) (s1 : rsa.toInt ≤ 399) (r0 : 0 ≤ rri.toInt) (r1 : rri.toInt ≤ 3) :
    f_X6_relays_j7_1 me sp ex ba up go ri n n.toNatClampNeg = f_X1_actAsRelay_rpr ksp pme rpr rba rup rsa rri ∧ f_X6_relays_m_isUp me sp ba up n n.toNatClampNeg = f_X1_actAsRelay_rup ksp pme rba rup ∧ f_X6_relays_m_gone go n n.toNatClampNeg = f_X3_sample_rsa rsa ∧ f_X6_relays_j4_2 me sp ba up ri n n.toNatClampNeg = f_X1_actAsRelay_rri ksp pme rba rup rri ∧ f_X6_relays_j4_3 me sp ba up go ri se n n.toNatClampNeg = f_X1_actAsRelay_rse ksp pme rba rup rsa rri rse ∧ f_X6_relays_m_greatest me sp ba up gr n n.toNatClampNeg = f_X1_actAsRelay_rgr ksp pme rba rup rgr ∧ f_X6_relays_m_least me sp ba up le n n.toNatClampNeg = f_X1_actAsRelay_rle ksp pme rba rup rle ∧ f_X6_relays_j4_6 me sp ba up go ri se pe n n.toNatClampNeg = f_X1_actAsRelay_rpe ksp pme rpe rba rup rsa rri rse ∧ f_X6_relays_j4_7 me sp ba up ri gr le sw n n.toNatClampNeg = f_X1_actAsRelay_rsw ksp pme rsw rba rup rri rgr rle := by
  obtain ⟨u1, u2⟩ := up_eq hsp hme hba hup h01
  obtain ⟨q4, -⟩ := ri4 r0 r1
  obtain ⟨q400, -⟩ := sa4 s0 s1
  unfold f_X6_relays_j7_1 f_X6_relays_m_isUp f_X6_relays_m_gone f_X6_relays_j4_2 f_X6_relays_j4_3 f_X6_relays_m_greatest f_X6_relays_m_least f_X6_relays_j4_6 f_X6_relays_j4_7 f_X6_relays_j5_1 f_X6_relays_j6_1 f_X6_relays_j4_1 f_X6_relays_j4_4 f_X6_relays_j4_5 f_X6_relays_j3_1 f_X6_relays_j3_2 f_X6_relays_j3_3 f_X6_relays_j2_1 f_X1_actAsRelay_rpr f_X1_actAsRelay_rup f_X3_sample_rsa f_X1_actAsRelay_rri f_X1_actAsRelay_rse f_X1_actAsRelay_rgr f_X1_actAsRelay_rle f_X1_actAsRelay_rpe f_X1_actAsRelay_rsw f_X3_sample_j3_1 f_X3_sample_j2_1 f_X3_sample_j2_2 f_X3_sample_j2_3 f_X3_sample_j2_4 f_X3_sample_j2_5 f_X3_sample_j2_6 f_X3_sample_j2_7 f_X3_noteRise_j2_1 f_X3_noteRise_j2_2 f_X3_noteRise_j2_3 f_X3_noteRise_rri f_X3_noteRise_j1_1
  simp only [u1, nar01 u2, u_eq, ul_eq, hup, hgo, hri, hme, q4, q400]
  generalize f_X3_sample_j1_1 rba rup (f_X0_error_r ksp pme) = U at u2
  have mx : ∀ g : Int64, (if pme ≤ g then g else pme) = if pme < g then g else pme := fun g => by
    by_cases a : pme < g
    · have b : pme ≤ g := by rw [fa_le64]; rw [fa_lt64] at a; omega
      rw [if_pos a, if_pos b]
    · by_cases b : pme ≤ g
      · have c : g = pme := by rw [fa_eq64]; rw [fa_lt64] at a; rw [fa_le64] at b; omega
        rw [if_pos b, if_neg a, c]
      · rw [if_neg a, if_neg b]
  have mn : ∀ g : Int64, (if g ≤ pme then g else pme) = if pme < g then pme else g := fun g => by
    by_cases a : pme < g
    · have b : ¬ g ≤ pme := by rw [fa_le64]; rw [fa_lt64] at a; omega
      rw [if_pos a, if_neg b]
    · have b : g ≤ pme := by rw [fa_le64]; rw [fa_lt64] at a; omega
      rw [if_neg a, if_pos b]
  have pp : pme ≤ pme := by rw [fa_le64]; omega
  by_cases a : U = 0
  · by_cases z : rsa + 1 = 400
    · simp [a, z, h1, hex, hri, hse, hgr, hle, hpe, hsw, mx, mn, u_eq, ul_eq]
    · simp [a, z, h1, hex, hri, hse, hgr, hle, hpe, hsw, mx, mn, u_eq, ul_eq]
  · by_cases b : rup = 0
    · by_cases c : rri + 1 = 4
      · have c2 : ¬ rri + 1 = 2 := by rw [c]; decide
        by_cases z : rsa + 1 = 400
        · simp [a, b, c, c2, z, h1, hex, hri, hse, hgr, hle, hpe, hsw, pp, u_eq, ul_eq]
        · simp [a, b, c, c2, z, h1, hex, hri, hse, hgr, hle, hpe, hsw, pp, u_eq, ul_eq]
      · by_cases c2 : rri + 1 = 2
        · by_cases z : rsa + 1 = 400
          · simp [a, b, c, c2, z, h1, hex, hri, hse, hgr, hle, hpe, hsw, pp, u_eq, ul_eq]
          · simp [a, b, c, c2, z, h1, hex, hri, hse, hgr, hle, hpe, hsw, pp, u_eq, ul_eq]
        · by_cases z : rsa + 1 = 400
          · simp [a, b, c, c2, z, h1, hex, hri, hse, hgr, hle, hpe, hsw, pp, u_eq, ul_eq]
          · simp [a, b, c, c2, z, h1, hex, hri, hse, hgr, hle, hpe, hsw, pp, u_eq, ul_eq]
    · by_cases z : rsa + 1 = 400
      · simp [a, b, z, h1, hex, hri, hse, hgr, hle, hpe, hsw, mx, mn, u_eq, ul_eq]
      · simp [a, b, z, h1, hex, hri, hse, hgr, hle, hpe, hsw, mx, mn, u_eq, ul_eq]
/-- what a relay's sample keeps -/
theorem rl_inv (h01 : Ist rup) (hgl : Igl rgr rle) (hsw : Isw rsw rpe rhe) (hme : Ime pme) (hrl : Irl 3 rpr rsa rri rse) : Igl (f_X1_actAsRelay_rgr ksp pme rba rup rgr) (f_X1_actAsRelay_rle ksp pme rba rup rle) ∧ Isw (f_X1_actAsRelay_rsw ksp pme rsw rba rup rri rgr rle) (f_X1_actAsRelay_rpe ksp pme rpe rba rup rsa rri rse) rhe ∧ Irl (f_X1_actAsRelay_j1_1 3 ksp pme rpr rba rup rsa rri) (f_X1_actAsRelay_rpr ksp pme rpr rba rup rsa rri) (f_X3_sample_rsa rsa) (f_X1_actAsRelay_rri ksp pme rba rup rri) (f_X1_actAsRelay_rse ksp pme rba rup rsa rri rse) ∧ (f_X1_actAsRelay_j1_1 3 ksp pme rpr rba rup rsa rri = 3 ∨ f_X1_actAsRelay_j1_1 3 ksp pme rpr rba rup rsa rri = 1) := by
  obtain ⟨i1, i2, i3, i4, i5, i6⟩ := hrl rfl
  obtain ⟨g1, g2, g3⟩ := hgl
  obtain ⟨w1, w2, w3, w4, w5, w6⟩ := hsw
  obtain ⟨m1, m2⟩ := hme
  obtain ⟨q4, e4⟩ := ri4 i4 i5
  obtain ⟨q400, e400⟩ := sa4 i2 i3
  unfold f_X1_actAsRelay_j1_1 f_X1_actAsRelay_rpr f_X3_sample_rsa f_X1_actAsRelay_rri f_X1_actAsRelay_rse f_X1_actAsRelay_rgr f_X1_actAsRelay_rle f_X1_actAsRelay_rpe f_X1_actAsRelay_rsw f_X3_sample_j3_1 f_X3_sample_j2_1 f_X3_sample_j2_2 f_X3_sample_j2_3 f_X3_sample_j2_4 f_X3_sample_j2_5 f_X3_sample_j2_6 f_X3_sample_j2_7 f_X3_noteRise_j2_1 f_X3_noteRise_j2_2 f_X3_noteRise_j2_3 f_X3_noteRise_rri f_X3_noteRise_j1_1
  simp only [q4, q400, i1, if_true]
  generalize f_X3_sample_j1_1 rba rup (f_X0_error_r ksp pme) = U
  have two : rri + 1 = 2 ↔ rri.toInt = 1 := by
    rw [fa_eq, e4]
    have : (2 : Int32).toInt = 2 := rfl
    omega
  have four : rri + 1 = 4 ↔ rri.toInt = 3 := by
    rw [fa_eq, e4]
    have : (4 : Int32).toInt = 4 := rfl
    omega
  have f400 : rsa + 1 = 400 ↔ rsa.toInt = 399 := by
    rw [fa_eq, e400]
    have : (400 : Int32).toInt = 400 := rfl
    omega
  have G : Igl (if pme < rgr then rgr else pme) (if pme < rle then pme else rle) := by
    by_cases a : pme < rgr
    · rw [if_pos a]
      rw [fa_lt64] at a
      by_cases b : pme < rle
      · rw [if_pos b]; rw [fa_lt64] at b; exact ⟨by omega, by omega, by omega⟩
      · rw [if_neg b]; exact ⟨by omega, by omega, by omega⟩
    · rw [if_neg a]
      rw [fa_lt64] at a
      by_cases b : pme < rle
      · rw [if_pos b]; rw [fa_lt64] at b; exact ⟨by omega, by omega, by omega⟩
      · rw [if_neg b]; rw [fa_lt64] at b; exact ⟨by omega, by omega, by omega⟩
  have W : Isw rsw rpe rhe := ⟨w1, w2, w3, w4, w5, w6⟩
  -- without a rise
  have N : ∀ x : Int32, x = (if ¬ rsa + 1 = 400 then 1 else 3) → Irl (if x = 1 then 3 else 1) x (rsa + 1) rri rse ∧ ((if x = 1 then (3 : Int32) else 1) = 3 ∨ (if x = 1 then (3 : Int32) else 1) = 1) := by
    intro x hx
    by_cases z : rsa + 1 = 400
    · rw [if_neg (fun h => h z)] at hx
      subst hx
      rw [if_neg (by decide)]
      exact ⟨fun h => absurd h (by decide), Or.inr rfl⟩
    · have z2 : ¬ rsa.toInt = 399 := fun h => z (f400.mpr h)
      rw [if_pos z] at hx
      subst hx
      rw [if_pos rfl]
      refine ⟨fun _ => ⟨rfl, by omega, by omega, i4, i5, fun h => ?_⟩, Or.inl rfl⟩
      have := i6 h
      omega
  by_cases a : U = 0
  · simp only [if_pos a]
    exact ⟨G, W, (N _ rfl).1, (N _ rfl).2⟩
  · simp only [if_neg a]
    by_cases b : rup = 0
    · simp only [if_pos b]
      refine ⟨⟨by omega, m1, m2⟩, ?_⟩
      by_cases c : rri + 1 = 4
      · have c3 := four.mp c
        have c2 : ¬ rri + 1 = 2 := fun h => by have := two.mp h; omega
        have j6 := i6 (by omega)
        simp only [c, not_true_eq_false, if_false, if_neg (show ¬ (4 : Int32) = 2 by decide), if_neg (show ¬ (2 : Int32) = 1 by decide)]
        have hsw2 : (rgr - rle).toInt = rgr.toInt - rle.toInt := fb_subL (by omega) (by omega)
        have hd : (rsa + 1 - rse).toInt = rsa.toInt + 1 - rse.toInt := by rw [fb_subI (by omega) (by omega), e400]
        have hpe : ((rsa + 1 - rse) / 2).toInt = (rsa.toInt + 1 - rse.toInt) / 2 := by rw [dv_2 (by omega), hd]
        refine ⟨⟨by omega, by omega, by omega, w4, w5, by omega⟩, ?_⟩
        exact ⟨fun h => absurd h (by decide), Or.inr (by decide)⟩
      · have c3 : ¬ rri.toInt = 3 := fun h => c (four.mpr h)
        simp only [c, not_false_eq_true, if_true]
        refine ⟨W, ?_⟩
        have N2 : ∀ x : Int32, x = (if ¬ rsa + 1 = 400 then 1 else 3) → Irl (if x = 1 then 3 else 1) x (rsa + 1) (rri + 1) (if rri + 1 = 2 then rsa + 1 else rse) ∧ ((if x = 1 then (3 : Int32) else 1) = 3 ∨ (if x = 1 then (3 : Int32) else 1) = 1) := by
          intro x hx
          by_cases z : rsa + 1 = 400
          · rw [if_neg (fun h => h z)] at hx
            subst hx
            rw [if_neg (by decide)]
            exact ⟨fun h => absurd h (by decide), Or.inr rfl⟩
          · have z2 : ¬ rsa.toInt = 399 := fun h => z (f400.mpr h)
            rw [if_pos z] at hx
            subst hx
            rw [if_pos rfl]
            refine ⟨fun _ => ⟨rfl, by omega, by omega, by omega, by omega, fun h => ?_⟩, Or.inl rfl⟩
            by_cases c2 : rri + 1 = 2
            · rw [if_pos c2]; omega
            · have c4 : ¬ rri.toInt = 1 := fun h => c2 (two.mpr h)
              rw [if_neg c2]
              have := i6 (by omega)
              omega
        exact N2 _ rfl
    · simp only [if_neg b]
      exact ⟨G, W, (N _ rfl).1, (N _ rfl).2⟩
end RL
