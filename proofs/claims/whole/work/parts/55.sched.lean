-- the schedule
theorem sc_u {j : Nat} (hj : j ≤ 5) (gm : Nat → Int32) (mv : Int64) : ∃ u : Nat, u ≤ j ∧ f_X4_pointsReached_j1_1 (nI j) gm mv = nI u ∧ (∀ i : Nat, i < u → ¬ mv < (gm i).toInt64) ∧ (u < j → mv < (gm u).toInt64) := by
  have le : ∀ m : Nat, m ≤ 5 → (nI j ≤ nI m ↔ j ≤ m) := fun m hm => nI_leI (by omega) (by omega)
  unfold f_X4_pointsReached_j1_1
  by_cases c0 : j ≤ 0
  · rw [if_pos (show nI j ≤ (0 : Int32) from (le 0 (by omega)).mpr c0)]
    exact ⟨0, by omega, rfl, fun i hi => absurd hi (by omega), fun h => absurd h (by omega)⟩
  rw [if_neg (show ¬ nI j ≤ (0 : Int32) from fun h => c0 ((le 0 (by omega)).mp h))]
  by_cases d0 : mv < (gm 0).toInt64
  · rw [if_pos (show mv < (gm (0 : Int32).toNatClampNeg).toInt64 from d0)]
    exact ⟨0, by omega, rfl, fun i hi => absurd hi (by omega), fun _ => d0⟩
  rw [if_neg (show ¬ mv < (gm (0 : Int32).toNatClampNeg).toInt64 from d0)]
  by_cases c1 : j ≤ 1
  · rw [if_pos (show nI j ≤ (1 : Int32) from (le 1 (by omega)).mpr c1)]
    refine ⟨1, by omega, rfl, fun i hi => ?_, fun h => absurd h (by omega)⟩
    rcases (show i = 0 by omega) with rfl
    exact d0
  rw [if_neg (show ¬ nI j ≤ (1 : Int32) from fun h => c1 ((le 1 (by omega)).mp h))]
  by_cases d1 : mv < (gm 1).toInt64
  · rw [if_pos (show mv < (gm (1 : Int32).toNatClampNeg).toInt64 from d1)]
    refine ⟨1, by omega, rfl, fun i hi => ?_, fun _ => d1⟩
    rcases (show i = 0 by omega) with rfl
    exact d0
  rw [if_neg (show ¬ mv < (gm (1 : Int32).toNatClampNeg).toInt64 from d1)]
  by_cases c2 : j ≤ 2
  · rw [if_pos (show nI j ≤ (2 : Int32) from (le 2 (by omega)).mpr c2)]
    refine ⟨2, by omega, rfl, fun i hi => ?_, fun h => absurd h (by omega)⟩
    rcases (show i = 0 ∨ i = 1 by omega) with rfl | rfl
    · exact d0
    · exact d1
  rw [if_neg (show ¬ nI j ≤ (2 : Int32) from fun h => c2 ((le 2 (by omega)).mp h))]
  by_cases d2 : mv < (gm 2).toInt64
  · rw [if_pos (show mv < (gm (2 : Int32).toNatClampNeg).toInt64 from d2)]
    refine ⟨2, by omega, rfl, fun i hi => ?_, fun _ => d2⟩
    rcases (show i = 0 ∨ i = 1 by omega) with rfl | rfl
    · exact d0
    · exact d1
  rw [if_neg (show ¬ mv < (gm (2 : Int32).toNatClampNeg).toInt64 from d2)]
  by_cases c3 : j ≤ 3
  · rw [if_pos (show nI j ≤ (3 : Int32) from (le 3 (by omega)).mpr c3)]
    refine ⟨3, by omega, rfl, fun i hi => ?_, fun h => absurd h (by omega)⟩
    rcases (show i = 0 ∨ i = 1 ∨ i = 2 by omega) with rfl | rfl | rfl
    · exact d0
    · exact d1
    · exact d2
  rw [if_neg (show ¬ nI j ≤ (3 : Int32) from fun h => c3 ((le 3 (by omega)).mp h))]
  by_cases d3 : mv < (gm 3).toInt64
  · rw [if_pos (show mv < (gm (3 : Int32).toNatClampNeg).toInt64 from d3)]
    refine ⟨3, by omega, rfl, fun i hi => ?_, fun _ => d3⟩
    rcases (show i = 0 ∨ i = 1 ∨ i = 2 by omega) with rfl | rfl | rfl
    · exact d0
    · exact d1
    · exact d2
  rw [if_neg (show ¬ mv < (gm (3 : Int32).toNatClampNeg).toInt64 from d3)]
  by_cases c4 : j ≤ 4
  · rw [if_pos (show nI j ≤ (4 : Int32) from (le 4 (by omega)).mpr c4)]
    refine ⟨4, by omega, rfl, fun i hi => ?_, fun h => absurd h (by omega)⟩
    rcases (show i = 0 ∨ i = 1 ∨ i = 2 ∨ i = 3 by omega) with rfl | rfl | rfl | rfl
    · exact d0
    · exact d1
    · exact d2
    · exact d3
  rw [if_neg (show ¬ nI j ≤ (4 : Int32) from fun h => c4 ((le 4 (by omega)).mp h))]
  by_cases d4 : mv < (gm 4).toInt64
  · rw [if_pos (show mv < (gm (4 : Int32).toNatClampNeg).toInt64 from d4)]
    refine ⟨4, by omega, rfl, fun i hi => ?_, fun _ => d4⟩
    rcases (show i = 0 ∨ i = 1 ∨ i = 2 ∨ i = 3 by omega) with rfl | rfl | rfl | rfl
    · exact d0
    · exact d1
    · exact d2
    · exact d3
  rw [if_neg (show ¬ mv < (gm (4 : Int32).toNatClampNeg).toInt64 from d4)]
  refine ⟨5, by omega, rfl, fun i hi => ?_, fun h => absurd h (by omega)⟩
  rcases (show i = 0 ∨ i = 1 ∨ i = 2 ∨ i = 3 ∨ i = 4 by omega) with rfl | rfl | rfl | rfl | rfl
  · exact d0
  · exact d1
  · exact d2
  · exact d3
  · exact d4
theorem ix5p (k c : Nat) (hk : k < 3) (hj : c ≤ 3) : ((((5 : Int32) * nI k) + nI c) + (1 : Int32)).toNatClampNeg = 5 * k + (c + 1) := by
  rcases (show k = 0 ∨ k = 1 ∨ k = 2 by omega) with rfl | rfl | rfl <;> rcases (show c = 0 ∨ c = 1 ∨ c = 2 ∨ c = 3 by omega) with rfl | rfl | rfl | rfl <;> rfl
theorem nIm {j : Nat} (h : 1 ≤ j) (hj : j ≤ 5) : nI j - (1 : Int32) = nI (j - 1) := by
  rcases (show j = 1 ∨ j = 2 ∨ j = 3 ∨ j = 4 ∨ j = 5 by omega) with rfl | rfl | rfl | rfl | rfl <;> rfl
theorem sc_q {j k : Nat} (h1 : 1 ≤ j) (hj : j ≤ 5) (hk : k < 3) {me at_ : Nat → Int64} {pts : Nat → Int32} {n : Int32} (hn : n = nI k) (hp : pts n.toNatClampNeg = nI j) : ∃ q : Nat, q + 1 ≤ j ∧ f_X6_schedules_j1_1 me pts at_ n = nI q ∧ (∀ i : Nat, 0 < i → i ≤ q → ¬ me n.toNatClampNeg < at_ (5 * k + i)) ∧ (q + 1 < j → me n.toNatClampNeg < at_ (5 * k + (q + 1))) := by
  have le : ∀ m : Nat, m ≤ 5 → (nI (j - 1) ≤ nI m ↔ j - 1 ≤ m) := fun m hm => nI_leI (by omega) (by omega)
  unfold f_X6_schedules_j1_1
  rw [hp, nIm h1 hj]
  generalize me n.toNatClampNeg = mv
  subst hn
  have e0 : ((((5 : Int32) * nI k) + (0 : Int32)) + (1 : Int32)).toNatClampNeg = 5 * k + 1 := ix5p k 0 hk (by omega)
  have e1 : ((((5 : Int32) * nI k) + (1 : Int32)) + (1 : Int32)).toNatClampNeg = 5 * k + 2 := ix5p k 1 hk (by omega)
  have e2 : ((((5 : Int32) * nI k) + (2 : Int32)) + (1 : Int32)).toNatClampNeg = 5 * k + 3 := ix5p k 2 hk (by omega)
  have e3 : ((((5 : Int32) * nI k) + (3 : Int32)) + (1 : Int32)).toNatClampNeg = 5 * k + 4 := ix5p k 3 hk (by omega)
  rw [e0, e1, e2, e3]
  by_cases c0 : j - 1 ≤ 0
  · rw [if_pos (show nI (j - 1) ≤ (0 : Int32) from (le 0 (by omega)).mpr c0)]
    exact ⟨0, by omega, rfl, fun i _ hi => absurd hi (by omega), fun h => absurd h (by omega)⟩
  rw [if_neg (show ¬ nI (j - 1) ≤ (0 : Int32) from fun h => c0 ((le 0 (by omega)).mp h))]
  by_cases d0 : mv < at_ (5 * k + 1)
  · rw [if_pos d0]
    exact ⟨0, by omega, rfl, fun i _ hi => absurd hi (by omega), fun _ => d0⟩
  rw [if_neg d0]
  by_cases c1 : j - 1 ≤ 1
  · rw [if_pos (show nI (j - 1) ≤ (1 : Int32) from (le 1 (by omega)).mpr c1)]
    refine ⟨1, by omega, rfl, fun i i0 hi => ?_, fun h => absurd h (by omega)⟩
    rcases (show i = 1 by omega) with rfl
    exact d0
  rw [if_neg (show ¬ nI (j - 1) ≤ (1 : Int32) from fun h => c1 ((le 1 (by omega)).mp h))]
  by_cases d1 : mv < at_ (5 * k + 2)
  · rw [if_pos d1]
    refine ⟨1, by omega, rfl, fun i i0 hi => ?_, fun _ => d1⟩
    rcases (show i = 1 by omega) with rfl
    exact d0
  rw [if_neg d1]
  by_cases c2 : j - 1 ≤ 2
  · rw [if_pos (show nI (j - 1) ≤ (2 : Int32) from (le 2 (by omega)).mpr c2)]
    refine ⟨2, by omega, rfl, fun i i0 hi => ?_, fun h => absurd h (by omega)⟩
    rcases (show i = 1 ∨ i = 2 by omega) with rfl | rfl
    · exact d0
    · exact d1
  rw [if_neg (show ¬ nI (j - 1) ≤ (2 : Int32) from fun h => c2 ((le 2 (by omega)).mp h))]
  by_cases d2 : mv < at_ (5 * k + 3)
  · rw [if_pos d2]
    refine ⟨2, by omega, rfl, fun i i0 hi => ?_, fun _ => d2⟩
    rcases (show i = 1 ∨ i = 2 by omega) with rfl | rfl
    · exact d0
    · exact d1
  rw [if_neg d2]
  by_cases c3 : j - 1 ≤ 3
  · rw [if_pos (show nI (j - 1) ≤ (3 : Int32) from (le 3 (by omega)).mpr c3)]
    refine ⟨3, by omega, rfl, fun i i0 hi => ?_, fun h => absurd h (by omega)⟩
    rcases (show i = 1 ∨ i = 2 ∨ i = 3 by omega) with rfl | rfl | rfl
    · exact d0
    · exact d1
    · exact d2
  rw [if_neg (show ¬ nI (j - 1) ≤ (3 : Int32) from fun h => c3 ((le 3 (by omega)).mp h))]
  by_cases d3 : mv < at_ (5 * k + 4)
  · rw [if_pos d3]
    refine ⟨3, by omega, rfl, fun i i0 hi => ?_, fun _ => d3⟩
    rcases (show i = 1 ∨ i = 2 ∨ i = 3 by omega) with rfl | rfl | rfl
    · exact d0
    · exact d1
    · exact d2
  rw [if_neg d3]
  refine ⟨4, by omega, rfl, fun i i0 hi => ?_, fun h => absurd h (by omega)⟩
  rcases (show i = 1 ∨ i = 2 ∨ i = 3 ∨ i = 4 by omega) with rfl | rfl | rfl | rfl
  · exact d0
  · exact d1
  · exact d2
  · exact d3
/-- one gain out of a schedule with points: what the class reads and what the reference reads -/
theorem sg_row {j k u q g : Nat} {B : Int} {gm gg : Nat → Int32} {at_ th : Nat → Int64} {mv : Int64} (h1 : 1 ≤ j) (hj : j ≤ 5) (hu : u ≤ j) (hu1 : ∀ i : Nat, i < u → ¬ mv < (gm i).toInt64) (hu2 : u < j → mv < (gm u).toInt64) (hq : q + 1 ≤ j) (hq1 : ∀ i : Nat, 0 < i → i ≤ q → ¬ mv < at_ (5 * k + i)) (hq2 : q + 1 < j → mv < at_ (5 * k + (q + 1)))
    (ha : ∀ i : Nat, i < j → at_ (5 * k + i) = (gm i).toInt64 ∧ -1000000 ≤ (gm i).toInt ∧ (gm i).toInt ≤ 1000000) (hr : ∀ i : Nat, i + 1 < j → (gm i).toInt < (gm (i + 1)).toInt) (ht : ∀ i : Nat, i < j → th (3 * (5 * k + i) + g) = (gg i).toInt64 ∧ -B ≤ (gg i).toInt ∧ (gg i).toInt ≤ B) (hB : B ≤ 50000)
    {fl : Int32} (hfl : fl = if nI (j - 1) ≤ nI q then 0 else if mv ≤ at_ (5 * k + q) then 0 else 1) :
    (f_X4_gainAt_r (nI j) gm gg (nI u) mv).toInt64 = th (3 * (5 * k + q) + g) + f_X6_floor_j1_1 ((th (if fl = 0 then 3 * (5 * k + q) + g else 3 * (5 * k + (q + 1)) + g) - th (3 * (5 * k + q) + g)) * (if fl = 0 then 0 else mv - at_ (5 * k + q))) (if fl = 0 then 1 else at_ (5 * k + (q + 1)) - at_ (5 * k + q)) ∧ -B ≤ (f_X4_gainAt_r (nI j) gm gg (nI u) mv).toInt ∧ (f_X4_gainAt_r (nI j) gm gg (nI u) mv).toInt ≤ B := by
  have z32 : (0 : Int32).toInt = 0 := rfl
  have w64 : ∀ x : Int32, x.toInt64.toInt = x.toInt := fun x => Int32.toInt_toInt64 x
  have ti : ∀ m : Nat, m ≤ 5 → (nI m).toInt = (m : Int) := fun m hm => nI_toInt (by omega)
  -- where the two stand
  have huq : (u = 0 → q = 0) ∧ (1 ≤ u → q + 1 = u) := by
    constructor
    · intro h0
      subst h0
      rcases Nat.eq_zero_or_pos q with c | c
      · exact c
      · have a1 := hu2 (by omega)
        have a2 := hq1 1 (by omega) (by omega)
        rw [(ha 1 (by omega)).1] at a2
        have a3 : (gm 0).toInt < (gm 1).toInt := hr 0 (by omega)
        rw [fa_lt64, w64] at a1 a2
        exact absurd a1 (by omega)
    · intro h0
      rcases Nat.lt_trichotomy (q + 1) u with c | c | c
      · have a1 := hu1 (q + 1) c
        have a2 := hq2 (by omega)
        rw [(ha (q + 1) (by omega)).1] at a2
        exact absurd a2 a1
      · exact c
      · have a1 := hu2 (by omega)
        have a2 := hq1 u (by omega) (by omega)
        rw [(ha u (by omega)).1] at a2
        exact absurd a1 a2
  have l0 : (0 : Int32) < nI u ↔ 0 < u := by rw [fa_lt, ti u (by omega), z32]; omega
  have l1 : nI j ≤ nI u ↔ j ≤ u := nI_leI (by omega) (by omega)
  have l2 : nI (j - 1) ≤ nI q ↔ j - 1 ≤ q := nI_leI (by omega) (by omega)
  have fz : ∀ x : Int64, f_X6_floor_j1_1 ((x - x) * 0) 1 = 0 := fun x => by rw [Int64.mul_zero]; decide
  simp only [l2] at hfl
  unfold f_X4_gainAt_r
  rw [show (0 : Int32).toNatClampNeg = 0 from rfl]
  by_cases c0 : 0 < u
  · have hqu := huq.2 c0
    rw [if_pos (l0.mpr c0)]
    by_cases c1 : j ≤ u
    · -- behind the last point
      have hq0 : q = j - 1 := by omega
      rw [if_pos (by omega)] at hfl
      have e4 : ¬ (4 : Int32) < nI u - 1 := by
        rw [nIm c0 (by omega), fa_lt, ti _ (by omega)]
        have : (4 : Int32).toInt = 4 := rfl
        omega
      rw [if_pos (l1.mpr c1), if_neg e4, ixm u c0 (by omega), hfl, if_pos rfl, if_pos rfl, if_pos rfl, fz, Int64.add_zero, show u - 1 = q by omega]
      have e := ht q (by omega)
      exact ⟨e.1.symm, e.2⟩
    · rw [if_neg (fun h => c1 (l1.mp h))]
      have u5 : nI u < 5 := by
        rw [fa_lt, ti _ (by omega)]
        have : (5 : Int32).toInt = 5 := rfl
        omega
      rw [if_pos u5, show (nI u).toNatClampNeg = u from nI_clamp (by omega), ixm u c0 (by omega), show u - 1 = q by omega, show u = q + 1 by omega]
      have r1 := hr q (by omega)
      have aq := ha q (by omega)
      have aq1 := ha (q + 1) (by omega)
      have m1 := hu1 q (by omega)
      have m2 := hu2 (by omega)
      rw [show u = q + 1 by omega] at m2
      rw [fa_lt64, w64] at m1 m2
      have tq := ht q (by omega)
      have tq1 := ht (q + 1) (by omega)
      have hw : ((gm (q + 1)).toInt64 - (gm q).toInt64).toInt = (gm (q + 1)).toInt - (gm q).toInt := by
        rw [fb_subL (by rw [w64, w64]; omega) (by rw [w64, w64]; omega), w64, w64]
      have z64 : (0 : Int64).toInt = 0 := rfl
      rw [if_pos (show (0 : Int64) < (gm (q + 1)).toInt64 - (gm q).toInt64 by rw [fa_lt64, hw, z64]; omega)]
      have hri : ((gg (q + 1)).toInt64 - (gg q).toInt64).toInt = (gg (q + 1)).toInt - (gg q).toInt := by
        rw [fb_subL (by rw [w64, w64]; omega) (by rw [w64, w64]; omega), w64, w64]
      have hfa : (mv - (gm q).toInt64).toInt = mv.toInt - (gm q).toInt := by
        rw [fb_subL (by rw [w64]; omega) (by rw [w64]; omega), w64]
      -- the rise times how far
      have hw0 : 0 < ((gm (q + 1)).toInt64 - (gm q).toInt64).toInt := by rw [hw]; omega
      have fe := fd_eqy (x := ((gg (q + 1)).toInt64 - (gg q).toInt64) * (mv - (gm q).toInt64)) hw0
      rw [fe.1]
      generalize hR : ((gg (q + 1)).toInt64 - (gg q).toInt64) = R at hri fe
      generalize hF : (mv - (gm q).toInt64) = F at hfa fe
      generalize hWW : ((gm (q + 1)).toInt64 - (gm q).toInt64) = Wd at hw hw0 fe
      have hF0 : 0 ≤ F.toInt := by omega
      have hF1 : F.toInt < Wd.toInt := by omega
      have pb : -(100000 * 2000000) ≤ R.toInt * F.toInt ∧ R.toInt * F.toInt ≤ 100000 * 2000000 := by
        constructor
        · have a1 : -100000 * F.toInt ≤ R.toInt * F.toInt := Int.mul_le_mul_of_nonneg_right (by omega) hF0
          omega
        · have a1 : R.toInt * F.toInt ≤ 100000 * F.toInt := Int.mul_le_mul_of_nonneg_right (by omega) hF0
          omega
      have hm : (R * F).toInt = R.toInt * F.toInt := fb_mulL (by omega) (by omega)
      have hfl2 : (f_X6_floor_j1_1 (R * F) Wd).toInt = R.toInt * F.toInt / Wd.toInt := by rw [fe.2, hm]
      -- between the two gains
      have hbt : (0 ≤ R.toInt → 0 ≤ R.toInt * F.toInt / Wd.toInt ∧ R.toInt * F.toInt / Wd.toInt ≤ R.toInt) ∧ (R.toInt ≤ 0 → R.toInt ≤ R.toInt * F.toInt / Wd.toInt ∧ R.toInt * F.toInt / Wd.toInt ≤ 0) := by
        constructor
        · intro hp
          refine ⟨Int.ediv_nonneg (Int.mul_nonneg hp hF0) (by omega), ?_⟩
          have a1 : R.toInt * F.toInt ≤ R.toInt * Wd.toInt := Int.mul_le_mul_of_nonneg_left (by omega) hp
          exact Int.ediv_le_of_le_mul hw0 a1
        · intro hp
          constructor
          · have a1 : R.toInt * Wd.toInt ≤ R.toInt * F.toInt := Int.mul_le_mul_of_nonpos_left hp (by omega)
            exact Int.le_ediv_of_mul_le hw0 a1
          · have a1 : R.toInt * F.toInt ≤ 0 := Int.mul_nonpos_of_nonpos_of_nonneg hp hF0
            exact Int.ediv_le_of_le_mul hw0 (by rw [Int.zero_mul]; exact a1)
      rw [← hfl2] at hbt
      generalize hX : f_X6_floor_j1_1 (R * F) Wd = X at hfl2 hbt
      have hXb : -100000 ≤ X.toInt ∧ X.toInt ≤ 100000 := by
        rcases Int.le_total 0 R.toInt with c | c
        · have := hbt.1 c; omega
        · have := hbt.2 c; omega
      have hX32 : X.toInt32.toInt = X.toInt := by
        rw [Int64.toInt_toInt32]
        exact fb_bmod (by omega) (by omega)
      have hsum : (gg q + X.toInt32).toInt = (gg q).toInt + X.toInt := by
        rw [fb_addI (by rw [hX32]; omega) (by rw [hX32]; omega), hX32]
      have hbd : -B ≤ (gg q + X.toInt32).toInt ∧ (gg q + X.toInt32).toInt ≤ B := by
        rw [hsum]
        rcases Int.le_total 0 R.toInt with c | c
        · have := hbt.1 c; omega
        · have := hbt.2 c; omega
      refine ⟨?_, hbd⟩
      have hval : (gg q + X.toInt32).toInt64 = (gg q).toInt64 + X := by
        rw [fa_eq64, w64, hsum, fb_addL (by rw [w64]; omega) (by rw [w64]; omega), w64]
      rw [hval, tq.1]
      rw [if_neg (by omega), aq.1] at hfl
      by_cases cm : mv ≤ (gm q).toInt64
      · rw [if_pos cm] at hfl
        rw [hfl, if_pos rfl, if_pos rfl, if_pos rfl, tq.1, fz]
        have e1 : F.toInt = 0 := by rw [fa_le64, w64] at cm; omega
        have e2 : X = 0 := by rw [fa_eq64, hfl2, e1, Int.mul_zero, Int.zero_ediv]; rfl
        rw [e2]
      · rw [if_neg cm] at hfl
        rw [hfl, if_neg (by decide), if_neg (by decide), if_neg (by decide), tq1.1, aq.1, aq1.1, hR, hF, hWW, hX]
  · have hu0 : u = 0 := by omega
    have hq0 := huq.1 hu0
    rw [if_neg (fun h => c0 (l0.mp h))]
    have hfz : fl = 0 := by
      rw [hfl]
      by_cases c : j - 1 ≤ q
      · rw [if_pos c]
      · rw [if_neg c, if_pos]
        have a1 := hu2 (by omega)
        rw [(ha q (by omega)).1, hq0]
        rw [hu0] at a1
        rw [fa_lt64] at a1
        rw [fa_le64]; omega
    rw [hfz, if_pos rfl, if_pos rfl, if_pos rfl, fz, Int64.add_zero, hq0]
    have e := ht 0 (by omega)
    exact ⟨e.1.symm, e.2⟩
