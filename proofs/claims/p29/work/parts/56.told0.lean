/-- what an experiment that is done tells, as the law asks it -/
def Told (s : LT) (he : Int32) : Prop := yl_rpr s = 2 ∧ (0 ≤ (yl_rsw s).toInt ∧ (yl_rsw s).toInt ≤ 2000000) ∧ (2 ≤ (yl_rpe s).toInt ∧ (yl_rpe s).toInt ≤ 200) ∧ yl_rhe s = he ∧ (1 ≤ he.toInt ∧ he.toInt ≤ 5000)
theorem td_sw {s : LT} {he : Int32} (h : Told s he) : ¬ f_X5_swing_j1_1 (yl_rpr s) = (0 : Int32) := by
  unfold f_X5_swing_j1_1; rw [if_pos h.1]; decide
theorem td_pd {s : LT} {he : Int32} (h : Told s he) : ¬ f_X5_period_j1_1 (yl_rpr s) = (0 : Int32) := by
  unfold f_X5_period_j1_1; rw [if_pos h.1]; decide
theorem td_le {s : LT} {he : Int32} (h : Told s he) : yl_rsw s ≤ (2000000 : Int64) := by
  rw [fa_le64]; exact h.2.1.2
theorem td_nn {s : LT} {he : Int32} (h : Told s he) : ¬ yl_rsw s < (0 : Int64) := by
  rw [fa_lt64]; have := h.2.1.1; have z : (0 : Int64).toInt = 0 := rfl; omega
theorem td_pos {s : LT} {he : Int32} (h : Told s he) (h0 : ¬ yl_rsw s = (0 : Int64)) : 0 < (yl_rsw s).toInt := by
  have := h.2.1.1
  have z : (0 : Int64).toInt = 0 := rfl
  rw [fa_eq64, z] at h0
  omega
theorem td_n0 {s : LT} {he : Int32} (h : Told s he) (h0 : ¬ yl_rsw s = (0 : Int64)) : ¬ yl_rsw s ≤ (0 : Int64) := by
  have := td_pos h h0
  have z : (0 : Int64).toInt = 0 := rfl
  rw [fa_le64, z]; omega
theorem td_pe {s : LT} {he : Int32} (h : Told s he) : ¬ yl_rpe s < (2 : Int32) ∧ yl_rpe s ≤ (200 : Int32) := by
  obtain ⟨-, -, ⟨a, b⟩, -⟩ := h
  rw [fa_lt, fa_le]
  have z : (2 : Int32).toInt = 2 := rfl
  have z2 : (200 : Int32).toInt = 200 := rfl
  omega
theorem td_ug {s : LT} {he : Int32} (h : Told s he) (h0 : ¬ yl_rsw s = (0 : Int64)) : ¬ f_X5_ultimateGain_j1_1 (yl_rpr s) (yl_rsw s) = (0 : Int32) := by
  unfold f_X5_ultimateGain_j1_1; rw [if_pos h.1, if_neg (td_n0 h h0)]; decide
theorem td_pr {s : LT} {he : Int32} (h : Told s he) (h0 : ¬ yl_rsw s = (0 : Int64)) : ¬ f_X5_proposed_j1_1 (yl_rpr s) (yl_rpe s) (yl_rsw s) = (0 : Int32) := by
  have hp : ¬ yl_rpe s ≤ (0 : Int32) := by
    have := h.2.2.1.1
    have z : (0 : Int32).toInt = 0 := rfl
    rw [fa_le, z]; omega
  unfold f_X5_proposed_j1_1; rw [if_pos h.1, if_neg (td_n0 h h0), if_neg hp]; decide
theorem td_z {s : LT} {he : Int32} (h : Told s he) (h0 : ¬ yl_rsw s = (0 : Int64)) : ¬ ((355 : Int64) * yl_rsw s) = 0 := nz_355 (td_n0 h h0) (td_le h)
theorem td_z2 {s : LT} {he : Int32} (h : Told s he) : ¬ ((484 : Int64) * (yl_rpe s).toInt64) = 0 := by
  refine nz_k ?_ (by decide) (by decide)
  have := h.2.2.1.1
  have z : (0 : Int32).toInt = 0 := rfl
  rw [fa_lt, z]; omega
/-- the gain at the edge, as a number -/
theorem td_e {s : LT} {he : Int32} (h : Told s he) (h0 : ¬ yl_rsw s = (0 : Int64)) : (f_X3_gainAtTheEdge_j1_1 (yl_rsw s) (yl_rhe s)).toInt = 904000 * he.toInt / (355 * (yl_rsw s).toInt) ∧ 0 ≤ 904000 * he.toInt / (355 * (yl_rsw s).toInt) ∧ 904000 * he.toInt / (355 * (yl_rsw s).toInt) ≤ 12732395 ∧ ((904000 : Int64) * he.toInt64).toInt = 904000 * he.toInt ∧ ((355 : Int64) * yl_rsw s).toInt = 355 * (yl_rsw s).toInt := by
  have hp := td_pos h h0
  obtain ⟨-, ⟨s1, s2⟩, -, hh, h1, h5⟩ := h
  have z9 : (904000 : Int64).toInt = 904000 := rfl
  have z3 : (355 : Int64).toInt = 355 := rfl
  have m1 : ((904000 : Int64) * he.toInt64).toInt = 904000 * he.toInt := by rw [fb_mulL (by rw [z9, Int32.toInt_toInt64]; omega) (by rw [z9, Int32.toInt_toInt64]; omega), z9, Int32.toInt_toInt64]
  have m2 : ((355 : Int64) * yl_rsw s).toInt = 355 * (yl_rsw s).toInt := by rw [fb_mulL (by rw [z3]; omega) (by rw [z3]; omega), z3]
  have q1 : 0 ≤ 904000 * he.toInt / (355 * (yl_rsw s).toInt) := Int.ediv_nonneg (by omega) (by omega)
  have q2 : 904000 * he.toInt / (355 * (yl_rsw s).toInt) ≤ 12732395 := Int.ediv_le_of_le_mul (by omega) (by omega)
  refine ⟨?_, q1, q2, m1, m2⟩
  have hn : ¬ yl_rsw s ≤ (0 : Int64) := by
    have z : (0 : Int64).toInt = 0 := rfl
    rw [fa_le64, z]; omega
  unfold f_X3_gainAtTheEdge_j1_1
  rw [if_neg hn, hh, fd_int (by rw [m2]; omega), m1, m2]
theorem to32 {x : Int64} (h1 : -2147483648 ≤ x.toInt) (h2 : x.toInt < 2147483648) : x.toInt32.toInt64 = x := by
  rw [fa_eq64, Int32.toInt_toInt64, Int64.toInt_toInt32]
  exact fb_bmod h1 h2
theorem td_u {s : LT} {he : Int32} (h : Told s he) (h0 : ¬ yl_rsw s = (0 : Int64)) : (lr_ultimateGain s).toInt64 = f_X3_gainAtTheEdge_j1_1 (yl_rsw s) (yl_rhe s) := by
  have e := td_e h h0
  show (f_X3_gainAtTheEdge_j1_1 (yl_rsw s) (yl_rhe s)).toInt32.toInt64 = _
  exact to32 (by rw [e.1]; omega) (by rw [e.1]; omega)
theorem td_g {s : LT} {he : Int32} (h : Told s he) (h0 : ¬ yl_rsw s = (0 : Int64)) : (lr_ultimateGain s).toInt64 = (((904000 : Int64) * he.toInt64) / ((355 : Int64) * (yl_rsw s))) := by
  have e := td_e h h0
  have hp := td_pos h h0
  have h1 := h.2.2.2.2
  rw [td_u h h0, fa_eq64, e.1, dv_64 (by rw [e.2.2.2.2]; omega), e.2.2.2.1, e.2.2.2.2]
  exact (Int.tdiv_eq_ediv_of_nonneg (by omega)).symm
theorem dv_nn {x y : Int64} (hx : 0 ≤ x.toInt) (hy : 0 < y.toInt) : (x / y).toInt = x.toInt / y.toInt := by
  rw [dv_64 hy]; exact Int.tdiv_eq_ediv_of_nonneg hx
theorem min_32 {x m : Int64} (hm0 : 0 ≤ m.toInt) (hm : m.toInt ≤ 50000) (hx : 0 ≤ x.toInt) : (m ≤ x → (if m < x then m else x).toInt32.toInt64 = m) ∧ (¬ m ≤ x → (if m < x then m else x).toInt32.toInt64 = x) ∧ 0 ≤ (if m < x then m else x).toInt32.toInt ∧ (if m < x then m else x).toInt32.toInt ≤ m.toInt := by
  by_cases c : m < x
  · rw [if_pos c]
    rw [fa_lt64] at c
    have e := to32 (x := m) (by omega) (by omega)
    have e2 : m.toInt32.toInt = m.toInt := by rw [← Int32.toInt_toInt64, e]
    refine ⟨fun _ => e, fun q => absurd (by rw [fa_le64]; omega) q, by omega, by omega⟩
  · rw [if_neg c]
    rw [fa_lt64] at c
    have e := to32 (x := x) (by omega) (by omega)
    have e2 : x.toInt32.toInt = x.toInt := by rw [← Int32.toInt_toInt64, e]
    refine ⟨fun q => ?_, fun _ => e, by omega, by omega⟩
    rw [e, fa_eq64]
    rw [fa_le64] at q
    omega
theorem td_p {s : LT} {he : Int32} (h : Told s he) (h0 : ¬ yl_rsw s = (0 : Int64)) : ((20000 : Int64) ≤ (((6 : Int64) * (lr_ultimateGain s).toInt64) / (10 : Int64)) → (lr_proposed s (0 : Int32) (0 : Int32)).toInt64 = (20000 : Int64)) ∧ (¬ (20000 : Int64) ≤ (((6 : Int64) * (lr_ultimateGain s).toInt64) / (10 : Int64)) → (lr_proposed s (0 : Int32) (0 : Int32)).toInt64 = (((6 : Int64) * (lr_ultimateGain s).toInt64) / (10 : Int64))) := by
  have e := td_e h h0
  have z6 : (6 : Int64).toInt = 6 := rfl
  have z10 : (10 : Int64).toInt = 10 := rfl
  rw [td_u h h0]
  have m : ((6 : Int64) * f_X3_gainAtTheEdge_j1_1 (yl_rsw s) (yl_rhe s)).toInt = 6 * (f_X3_gainAtTheEdge_j1_1 (yl_rsw s) (yl_rhe s)).toInt := by rw [fb_mulL (by rw [z6, e.1]; omega) (by rw [z6, e.1]; omega), z6]
  have d := dv_nn (x := (6 : Int64) * f_X3_gainAtTheEdge_j1_1 (yl_rsw s) (yl_rhe s)) (y := 10) (by rw [m, e.1]; omega) (by decide)
  have hP : lr_proposed s (0 : Int32) (0 : Int32) = (if (20000 : Int64) < (((6 : Int64) * f_X3_gainAtTheEdge_j1_1 (yl_rsw s) (yl_rhe s)) / (10 : Int64)) then (20000 : Int64) else (((6 : Int64) * f_X3_gainAtTheEdge_j1_1 (yl_rsw s) (yl_rhe s)) / (10 : Int64))).toInt32 := by
    unfold lr_proposed f_X5_proposed_r f_X3_proposedP_j1_1
    rw [if_pos rfl, if_pos rfl]
  rw [hP]
  have k := min_32 (x := (((6 : Int64) * f_X3_gainAtTheEdge_j1_1 (yl_rsw s) (yl_rhe s)) / (10 : Int64))) (m := 20000) (by decide) (by decide) (by rw [d, m, z10, e.1]; omega)
  exact ⟨k.1, k.2.1⟩
theorem td_i {s : LT} {he : Int32} (h : Told s he) (h0 : ¬ yl_rsw s = (0 : Int64)) : ((5000 : Int64) ≤ (((100 : Int64) * (lr_ultimateGain s).toInt64) / ((484 : Int64) * (yl_rpe s).toInt64)) → (lr_proposed s (1 : Int32) (1 : Int32)).toInt64 = (5000 : Int64)) ∧ (¬ (5000 : Int64) ≤ (((100 : Int64) * (lr_ultimateGain s).toInt64) / ((484 : Int64) * (yl_rpe s).toInt64)) → (lr_proposed s (1 : Int32) (1 : Int32)).toInt64 = (((100 : Int64) * (lr_ultimateGain s).toInt64) / ((484 : Int64) * (yl_rpe s).toInt64))) := by
  have e := td_e h h0
  obtain ⟨-, -, ⟨p1, p2⟩, -⟩ := id h
  have z6 : (100 : Int64).toInt = 100 := rfl
  have z4 : (484 : Int64).toInt = 484 := rfl
  rw [td_u h h0]
  have m : ((100 : Int64) * f_X3_gainAtTheEdge_j1_1 (yl_rsw s) (yl_rhe s)).toInt = 100 * (f_X3_gainAtTheEdge_j1_1 (yl_rsw s) (yl_rhe s)).toInt := by rw [fb_mulL (by rw [z6, e.1]; omega) (by rw [z6, e.1]; omega), z6]
  have m2 : ((484 : Int64) * (yl_rpe s).toInt64).toInt = 484 * (yl_rpe s).toInt := by rw [fb_mulL (by rw [z4, Int32.toInt_toInt64]; omega) (by rw [z4, Int32.toInt_toInt64]; omega), z4, Int32.toInt_toInt64]
  have d := dv_nn (x := (100 : Int64) * f_X3_gainAtTheEdge_j1_1 (yl_rsw s) (yl_rhe s)) (y := (484 : Int64) * (yl_rpe s).toInt64) (by rw [m, e.1]; omega) (by rw [m2]; omega)
  have hr : (0 : Int32) < yl_rpe s := by
    have z : (0 : Int32).toInt = 0 := rfl
    rw [fa_lt, z]; omega
  have hP : lr_proposed s (1 : Int32) (1 : Int32) = (if (5000 : Int64) < (((100 : Int64) * f_X3_gainAtTheEdge_j1_1 (yl_rsw s) (yl_rhe s)) / ((484 : Int64) * (yl_rpe s).toInt64)) then (5000 : Int64) else (((100 : Int64) * f_X3_gainAtTheEdge_j1_1 (yl_rsw s) (yl_rhe s)) / ((484 : Int64) * (yl_rpe s).toInt64))).toInt32 := by
    unfold lr_proposed f_X5_proposed_r f_X3_proposedI_r f_X3_proposedI_j1_1
    rw [if_neg (show ¬ (1 : Int32) = 0 by decide), if_pos rfl, if_pos hr, if_neg (show ¬ (1 : Int32) = 0 by decide)]
  rw [hP]
  have k := min_32 (x := (((100 : Int64) * f_X3_gainAtTheEdge_j1_1 (yl_rsw s) (yl_rhe s)) / ((484 : Int64) * (yl_rpe s).toInt64))) (m := 5000) (by decide) (by decide) (by rw [d]; exact Int.ediv_nonneg (by rw [m, e.1]; omega) (by rw [m2]; omega))
  exact ⟨k.1, k.2.1⟩
theorem td_d {s : LT} {he : Int32} (h : Told s he) (h0 : ¬ yl_rsw s = (0 : Int64)) : ¬ lr_proposed s (0 : Int32) (2 : Int32) < (0 : Int32) ∧ ¬ (50000 : Int32) < lr_proposed s (0 : Int32) (2 : Int32) := by
  have e := td_e h h0
  obtain ⟨-, -, ⟨p1, p2⟩, -⟩ := id h
  have z3 : (3 : Int64).toInt = 3 := rfl
  have z40 : (40 : Int64).toInt = 40 := rfl
  generalize hE : f_X3_gainAtTheEdge_j1_1 (yl_rsw s) (yl_rhe s) = E at e
  have m : ((3 : Int64) * E).toInt = 3 * E.toInt := by rw [fb_mulL (by rw [z3, e.1]; omega) (by rw [z3, e.1]; omega), z3]
  have m2 := mul_b (x := (3 : Int64) * E) (y := (yl_rpe s).toInt64) (a := 40000000) (b := 200) (by decide) (by decide) (by rw [m, e.1]; omega) (by rw [m, e.1]; omega) (by rw [Int32.toInt_toInt64]; omega) (by rw [Int32.toInt_toInt64]; omega) (by decide)
  have nn : 0 ≤ ((3 : Int64) * E * (yl_rpe s).toInt64).toInt := by
    rw [m2.1]
    exact Int.mul_nonneg (by rw [m, e.1]; omega) (by rw [Int32.toInt_toInt64]; omega)
  have d := dv_nn (x := (3 : Int64) * E * (yl_rpe s).toInt64) (y := 40) nn (by decide)
  have hP : lr_proposed s (0 : Int32) (2 : Int32) = (if (50000 : Int64) < (((3 : Int64) * E * (yl_rpe s).toInt64) / (40 : Int64)) then (50000 : Int64) else (((3 : Int64) * E * (yl_rpe s).toInt64) / (40 : Int64))).toInt32 := by
    unfold lr_proposed f_X5_proposed_r f_X3_proposedD_j1_1
    rw [if_neg (by decide), if_neg (by decide), if_pos rfl, hE]
  rw [hP]
  have k := min_32 (x := (((3 : Int64) * E * (yl_rpe s).toInt64) / (40 : Int64))) (m := 50000) (by decide) (by decide) (by rw [d, z40]; exact Int.ediv_nonneg nn (by decide))
  have z0 : (0 : Int32).toInt = 0 := rfl
  have z5 : (50000 : Int32).toInt = 50000 := rfl
  have z5' : (50000 : Int64).toInt = 50000 := rfl
  rw [fa_lt, fa_lt, z0, z5]
  omega
