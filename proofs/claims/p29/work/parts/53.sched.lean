-- a scheduled gain lies between two of its points
theorem nIm {j : Nat} (h : 1 ≤ j) (hj : j ≤ 5) : nI j - (1 : Int32) = nI (j - 1) := (lwSub (a := j) (b := 1) (by omega)).symm
theorem ixm (j : Nat) (h0 : 0 < j) (hj : j ≤ 5) : (nI j - (1 : Int32)).toNatClampNeg = j - 1 := by rw [nIm h0 hj]; exact nI_clamp (by omega)
theorem ga_btw {j u : Nat} {gm gg : Nat → Int32} {mv : Int64} (h1 : 1 ≤ j) (hj : j ≤ 5) (hu : u ≤ j) (hu1 : ∀ i : Nat, i < u → ¬ mv < (gm i).toInt64) (hu2 : u < j → mv < (gm u).toInt64)
    (ha : ∀ i : Nat, i < j → -1000000 ≤ (gm i).toInt ∧ (gm i).toInt ≤ 1000000) (hr : ∀ i : Nat, i + 1 < j → (gm i).toInt < (gm (i + 1)).toInt) (ht : ∀ i : Nat, i < j → -50000 ≤ (gg i).toInt ∧ (gg i).toInt ≤ 50000) :
    ∃ t1 t2 : Nat, t1 < j ∧ t2 < j ∧ (gg t1).toInt ≤ (f_X4_gainAt_r (nI j) gm gg (nI u) mv).toInt ∧ (f_X4_gainAt_r (nI j) gm gg (nI u) mv).toInt ≤ (gg t2).toInt := by
  have z32 : (0 : Int32).toInt = 0 := rfl
  have w64 : ∀ x : Int32, x.toInt64.toInt = x.toInt := fun x => Int32.toInt_toInt64 x
  have ti : ∀ m : Nat, m ≤ 5 → (nI m).toInt = (m : Int) := fun m hm => nI_toInt (by omega)
  have l0 : (0 : Int32) < nI u ↔ 0 < u := by rw [fa_lt, ti u (by omega), z32]; omega
  have l1 : nI j ≤ nI u ↔ j ≤ u := nI_leI (by omega) (by omega)
  unfold f_X4_gainAt_r
  rw [show (0 : Int32).toNatClampNeg = 0 from rfl]
  by_cases c0 : 0 < u
  · obtain ⟨q, rfl⟩ : ∃ q, u = q + 1 := ⟨u - 1, by omega⟩
    rw [if_pos (l0.mpr c0)]
    by_cases c1 : j ≤ q + 1
    · have e4 : ¬ (4 : Int32) < nI (q + 1) - 1 := by
        rw [nIm c0 (by omega), fa_lt, ti _ (by omega)]
        have : (4 : Int32).toInt = 4 := rfl
        omega
      rw [if_pos (l1.mpr c1), if_neg e4, ixm (q + 1) c0 (by omega), show q + 1 - 1 = q by omega]
      exact ⟨q, q, by omega, by omega, Int.le_refl _, Int.le_refl _⟩
    · rw [if_neg (fun h => c1 (l1.mp h))]
      have u5 : nI (q + 1) < 5 := by
        rw [fa_lt, ti _ (by omega)]
        have : (5 : Int32).toInt = 5 := rfl
        omega
      rw [if_pos u5, show (nI (q + 1)).toNatClampNeg = q + 1 from nI_clamp (by omega), ixm (q + 1) c0 (by omega), show q + 1 - 1 = q by omega]
      have r1 := hr q (by omega)
      have aq := ha q (by omega)
      have aq1 := ha (q + 1) (by omega)
      have m1 := hu1 q (by omega)
      have m2 := hu2 (by omega)
      rw [fa_lt64, w64] at m1 m2
      have tq := ht q (by omega)
      have tq1 := ht (q + 1) (by omega)
      have hw : ((gm (q + 1)).toInt64 - (gm q).toInt64).toInt = (gm (q + 1)).toInt - (gm q).toInt := by
        rw [fb_subL (by rw [w64, w64]; omega) (by rw [w64, w64]; omega), w64, w64]
      have z64 : (0 : Int64).toInt = 0 := rfl
      rw [if_pos (show (0 : Int64) < (gm (q + 1)).toInt64 - (gm q).toInt64 by rw [fa_lt64, hw, z64]; omega)]
      have hri : ((gg (q + 1)).toInt64 - (gg q).toInt64).toInt = (gg (q + 1)).toInt - (gg q).toInt := by
        rw [fb_subL (by rw [w64, w64]; omega) (by rw [w64, w64]; omega), w64, w64]
      have hfa : (mv - (gm q).toInt64).toInt = mv.toInt - (gm q).toInt := by
        rw [fb_subL (by rw [w64]; omega) (by rw [w64]; omega), w64]
      have hw0 : 0 < ((gm (q + 1)).toInt64 - (gm q).toInt64).toInt := by rw [hw]; omega
      have fe := fd_int (x := ((gg (q + 1)).toInt64 - (gg q).toInt64) * (mv - (gm q).toInt64)) hw0
      generalize hR : ((gg (q + 1)).toInt64 - (gg q).toInt64) = R at hri fe ⊢
      generalize hF : (mv - (gm q).toInt64) = F at hfa fe ⊢
      generalize hWW : ((gm (q + 1)).toInt64 - (gm q).toInt64) = Wd at hw hw0 fe ⊢
      have hF0 : 0 ≤ F.toInt := by omega
      have hF1 : F.toInt < Wd.toInt := by omega
      have pb : -(100000 * 2000000) ≤ R.toInt * F.toInt ∧ R.toInt * F.toInt ≤ 100000 * 2000000 := by
        constructor
        · have a1 : -100000 * F.toInt ≤ R.toInt * F.toInt := Int.mul_le_mul_of_nonneg_right (by omega) hF0
          omega
        · have a1 : R.toInt * F.toInt ≤ 100000 * F.toInt := Int.mul_le_mul_of_nonneg_right (by omega) hF0
          omega
      have hm : (R * F).toInt = R.toInt * F.toInt := fb_mulL (by omega) (by omega)
      have hfl2 : (f_J9_floorDiv_f86c9_r (R * F) Wd).toInt = R.toInt * F.toInt / Wd.toInt := by rw [fe, hm]
      have hbt : (0 ≤ R.toInt → 0 ≤ R.toInt * F.toInt / Wd.toInt ∧ R.toInt * F.toInt / Wd.toInt ≤ R.toInt) ∧ (R.toInt ≤ 0 → R.toInt ≤ R.toInt * F.toInt / Wd.toInt ∧ R.toInt * F.toInt / Wd.toInt ≤ 0) := by
        constructor
        · intro hp
          refine ⟨Int.ediv_nonneg (Int.mul_nonneg hp hF0) (by omega), ?_⟩
          have a1 : R.toInt * F.toInt ≤ R.toInt * Wd.toInt := Int.mul_le_mul_of_nonneg_left (by omega) hp
          exact Int.ediv_le_of_le_mul hw0 a1
        · intro hp
          constructor
          · have a1 : R.toInt * Wd.toInt ≤ R.toInt * F.toInt := Int.mul_le_mul_of_nonpos_left hp (by omega)
            exact Int.le_ediv_of_mul_le hw0 a1
          · have a1 : R.toInt * F.toInt ≤ 0 := Int.mul_nonpos_of_nonpos_of_nonneg hp hF0
            exact Int.ediv_le_of_le_mul hw0 (by rw [Int.zero_mul]; exact a1)
      rw [← hfl2] at hbt
      generalize hX : f_J9_floorDiv_f86c9_r (R * F) Wd = X at hfl2 hbt ⊢
      have hXb : -100000 ≤ X.toInt ∧ X.toInt ≤ 100000 := by
        rcases Int.le_total 0 R.toInt with c | c
        · have := hbt.1 c; omega
        · have := hbt.2 c; omega
      have hX32 : X.toInt32.toInt = X.toInt := by
        rw [Int64.toInt_toInt32]
        exact fb_bmod (by omega) (by omega)
      have hsum : (gg q + X.toInt32).toInt = (gg q).toInt + X.toInt := by
        rw [fb_addI (by rw [hX32]; omega) (by rw [hX32]; omega), hX32]
      rw [hsum]
      rcases Int.le_total 0 R.toInt with c | c
      · have := hbt.1 c
        exact ⟨q, q + 1, by omega, by omega, by omega, by omega⟩
      · have := hbt.2 c
        exact ⟨q + 1, q, by omega, by omega, by omega, by omega⟩
  · have hu0 : u = 0 := by omega
    rw [if_neg (fun h => c0 (l0.mp h))]
    exact ⟨0, 0, by omega, by omega, Int.le_refl _, Int.le_refl _⟩
/-- the gains of an automatic sample: scheduled where there are points, else as they are -/
def SG (sn : Int32) (gm gg : Nat → Int32) (x : Int32) (me : Int64) : Int32 := if (f_X4_hasPoints_j1_1 sn) = (0 : Int32) then x else (f_X4_gainAt_r sn gm gg (f_X4_pointsReached_j1_1 sn gm me) me)
theorem SG_0 (gm gg : Nat → Int32) (x : Int32) (me : Int64) : SG 0 gm gg x me = x := if_pos (by decide)
theorem hp_ne {j : Nat} (h : 1 ≤ j) (hj : j ≤ 5) : ¬ f_X4_hasPoints_j1_1 (nI j) = 0 := by
  unfold f_X4_hasPoints_j1_1
  rw [if_neg (nI_nle (by omega) (by omega))]
  decide
theorem SG_b {j : Nat} {gm gg : Nat → Int32} {x : Int32} {me : Int64} (hj : j ≤ 5) (hr : ∀ i : Nat, i + 1 < j → (gm i).toInt < (gm (i + 1)).toInt) (ha : ∀ i : Nat, i < j → -1000000 ≤ (gm i).toInt ∧ (gm i).toInt ≤ 1000000) (ht : ∀ i : Nat, i < j → -50000 ≤ (gg i).toInt ∧ (gg i).toInt ≤ 50000) :
    j = 0 ∨ ∃ t1 t2 : Nat, t1 < j ∧ t2 < j ∧ (gg t1).toInt ≤ (SG (nI j) gm gg x me).toInt ∧ (SG (nI j) gm gg x me).toInt ≤ (gg t2).toInt := by
  rcases Nat.eq_zero_or_pos j with c | c
  · exact Or.inl c
  · refine Or.inr ?_
    unfold SG
    rw [if_neg (hp_ne c hj)]
    obtain ⟨u, hu, e, h1, h2⟩ := sc_u hj gm me
    rw [e]
    exact ga_btw c hj hu h1 h2 ha hr ht
theorem SG_gb {j : Nat} {gm gp gi gd : Nat → Int32} {kp ki kd : Int32} {me : Int64} (hj : j ≤ 5) (hr : ∀ i : Nat, i + 1 < j → (gm i).toInt < (gm (i + 1)).toInt) (ha : ∀ i : Nat, i < j → -1000000 ≤ (gm i).toInt ∧ (gm i).toInt ≤ 1000000) (hg : ∀ i : Nat, i < j → Gb (gp i) (gi i) (gd i)) (hb : Gb kp ki kd) : Gb (SG (nI j) gm gp kp me) (SG (nI j) gm gi ki me) (SG (nI j) gm gd kd me) := by
  have b1 := SG_b (gg := gp) (x := kp) (me := me) hj hr ha (fun i hi => by have := hg i hi; unfold Gb at this; omega)
  have b2 := SG_b (gg := gi) (x := ki) (me := me) hj hr ha (fun i hi => by have := hg i hi; unfold Gb at this; omega)
  have b3 := SG_b (gg := gd) (x := kd) (me := me) hj hr ha (fun i hi => by have := hg i hi; unfold Gb at this; omega)
  by_cases c : j = 0
  · subst c
    exact hb
  · obtain ⟨t1, t2, x1, x2, x3, x4⟩ := b1.resolve_left c
    obtain ⟨t3, t4, y1, y2, y3, y4⟩ := b2.resolve_left c
    obtain ⟨t5, t6, z1, z2, z3, z4⟩ := b3.resolve_left c
    have g1 := hg t1 x1; have g2 := hg t2 x2; have g3 := hg t3 y1; have g4 := hg t4 y2; have g5 := hg t5 z1; have g6 := hg t6 z2
    unfold Gb at *
    omega
