-- plain facts on numbers: out of the kit's laws to paste (NUMBERS: order; COUNTS: numbers), then places in arrays
/-! ===== order of ints, in all its forms, and through longs ===== -/
theorem fa_lt (a b : Int32) : a < b ↔ a.toInt < b.toInt := Int32.lt_iff_toInt_lt
theorem fa_le (a b : Int32) : a ≤ b ↔ a.toInt ≤ b.toInt := Int32.le_iff_toInt_le
theorem fa_eq (a b : Int32) : a = b ↔ a.toInt = b.toInt := Int32.toInt_inj.symm
theorem fa_lt64 (a b : Int64) : a < b ↔ a.toInt < b.toInt := Int64.lt_iff_toInt_lt
theorem fa_le64 (a b : Int64) : a ≤ b ↔ a.toInt ≤ b.toInt := Int64.le_iff_toInt_le
theorem fa_eq64 (a b : Int64) : a = b ↔ a.toInt = b.toInt := Int64.toInt_inj.symm
/-- a comparison of two ints taken as longs -/
theorem fa_wide_lt (a b : Int32) : a.toInt64 < b.toInt64 ↔ a < b := by rw [fa_lt64, fa_lt, Int32.toInt_toInt64, Int32.toInt_toInt64]
theorem fa_wide_le (a b : Int32) : a.toInt64 ≤ b.toInt64 ↔ a ≤ b := by rw [fa_le64, fa_le, Int32.toInt_toInt64, Int32.toInt_toInt64]
theorem fa_wide_eq (a b : Int32) : a.toInt64 = b.toInt64 ↔ a = b := by rw [fa_eq64, fa_eq, Int32.toInt_toInt64, Int32.toInt_toInt64]
/-- one strict comparison gives all the others -/
theorem fb_rng (x : Int32) : -2147483648 ≤ x.toInt ∧ x.toInt < 2147483648 := by
  have h1 := Int32.le_toInt x
  have h2 := Int32.toInt_lt x
  omega
theorem fb_bmod {z : Int} (h1 : -2147483648 ≤ z) (h2 : z < 2147483648) : z.bmod (2 ^ 32) = z := by
  rw [Int.bmod_eq_of_le (by omega) (by omega)]
theorem fb_addI {x y : Int32} (h1 : -2147483648 ≤ x.toInt + y.toInt) (h2 : x.toInt + y.toInt < 2147483648) : (x + y).toInt = x.toInt + y.toInt := by
  rw [Int32.toInt_add, fb_bmod h1 h2]
theorem fb_subI {x y : Int32} (h1 : -2147483648 ≤ x.toInt - y.toInt) (h2 : x.toInt - y.toInt < 2147483648) : (x - y).toInt = x.toInt - y.toInt := by
  rw [Int32.toInt_sub, fb_bmod h1 h2]
theorem fb_mulI {x y : Int32} (h1 : -2147483648 ≤ x.toInt * y.toInt) (h2 : x.toInt * y.toInt < 2147483648) : (x * y).toInt = x.toInt * y.toInt := by
  rw [Int32.toInt_mul, fb_bmod h1 h2]
theorem fb_negI {x : Int32} (h : x.toInt ≠ -2147483648) : (-x).toInt = -x.toInt := by
  have := fb_rng x
  rw [Int32.toInt_neg, fb_bmod (by omega) (by omega)]
theorem fb_ofI {z : Int} (h1 : -2147483648 ≤ z) (h2 : z < 2147483648) : (Int32.ofInt z).toInt = z := by
  rw [Int32.toInt_ofInt, fb_bmod h1 h2]
theorem fb_asI (x : Int32) : Int32.ofInt x.toInt = x := Int32.ofInt_toInt x
theorem fb_rngL (x : Int64) : -9223372036854775808 ≤ x.toInt ∧ x.toInt < 9223372036854775808 := by
  have h1 := Int64.le_toInt x
  have h2 := Int64.toInt_lt x
  omega
theorem fb_bmodL {z : Int} (h1 : -9223372036854775808 ≤ z) (h2 : z < 9223372036854775808) : z.bmod (2 ^ 64) = z := by
  rw [Int.bmod_eq_of_le (by omega) (by omega)]
theorem fb_addL {x y : Int64} (h1 : -9223372036854775808 ≤ x.toInt + y.toInt) (h2 : x.toInt + y.toInt < 9223372036854775808) : (x + y).toInt = x.toInt + y.toInt := by
  rw [Int64.toInt_add, fb_bmodL h1 h2]
theorem fb_subL {x y : Int64} (h1 : -9223372036854775808 ≤ x.toInt - y.toInt) (h2 : x.toInt - y.toInt < 9223372036854775808) : (x - y).toInt = x.toInt - y.toInt := by
  rw [Int64.toInt_sub, fb_bmodL h1 h2]
theorem fb_mulL {x y : Int64} (h1 : -9223372036854775808 ≤ x.toInt * y.toInt) (h2 : x.toInt * y.toInt < 9223372036854775808) : (x * y).toInt = x.toInt * y.toInt := by
  rw [Int64.toInt_mul, fb_bmodL h1 h2]
theorem ix_in {x : Int32} {n : Nat} (h1 : 0 ≤ x.toInt) (h2 : x.toInt < n) : vp_in x n := vp_in_iff.mpr ⟨h1, h2⟩
theorem ix_m1 {n : Int32} (h1 : ¬ n ≤ 0) (h2 : ¬ 5 < n) : vp_in (n - 1) 5 := by
  rw [fa_le] at h1; rw [fa_lt] at h2
  have e0 : (0 : Int32).toInt = 0 := rfl
  have e1 : (1 : Int32).toInt = 1 := rfl
  have e5 : (5 : Int32).toInt = 5 := rfl
  have h := fb_rng n
  have hs : (n - 1).toInt = n.toInt - 1 := by rw [fb_subI (by omega) (by omega), e1]
  exact ix_in (by omega) (by omega)
theorem ix_5 {n : Int32} (h1 : ¬ n < 0) (h2 : ¬ 5 ≤ n) : vp_in n 5 := by
  rw [fa_lt] at h1; rw [fa_le] at h2
  have e0 : (0 : Int32).toInt = 0 := rfl
  have e5 : (5 : Int32).toInt = 5 := rfl
  exact ix_in (by omega) (by omega)
theorem ix_p5 {n : Int32} (h1 : 0 < n) (h2 : n < 5) : vp_in n 5 := by
  rw [fa_lt] at h1 h2
  have e0 : (0 : Int32).toInt = 0 := rfl
  have e5 : (5 : Int32).toInt = 5 := rfl
  exact ix_in (by omega) (by omega)
theorem ix_pm5 {n : Int32} (h1 : 0 < n) (h2 : n < 5) : vp_in (n - 1) 5 := by
  rw [fa_lt] at h1 h2
  have e0 : (0 : Int32).toInt = 0 := rfl
  have e1 : (1 : Int32).toInt = 1 := rfl
  have e5 : (5 : Int32).toInt = 5 := rfl
  have h := fb_rng n
  have hs : (n - 1).toInt = n.toInt - 1 := by rw [fb_subI (by omega) (by omega), e1]
  exact ix_in (by omega) (by omega)
theorem ix_min {n : Int32} (h1 : 0 < n) : vp_in (if (4 : Int32) < (n - (1 : Int32)) then (4 : Int32) else (n - (1 : Int32))) 5 := by
  rw [fa_lt] at h1
  have e0 : (0 : Int32).toInt = 0 := rfl
  have e1 : (1 : Int32).toInt = 1 := rfl
  have e4 : (4 : Int32).toInt = 4 := rfl
  have h := fb_rng n
  have hs : (n - 1).toInt = n.toInt - 1 := by rw [fb_subI (by omega) (by omega), e1]
  split
  · exact ix_in (by omega) (by omega)
  · rename_i h2
    rw [fa_lt] at h2
    exact ix_in (by omega) (by omega)
theorem nz_pos {y : Int64} (h : 0 < y) : ¬ y = 0 := by
  intro q; rw [q] at h; rw [fa_lt64] at h; exact absurd h (by omega)
theorem nz_355 {y : Int64} (h : ¬ y ≤ 0) (h2 : y ≤ 2000000) : ¬ (355 : Int64) * y = 0 := by
  rw [fa_le64] at h h2
  have e0 : (0 : Int64).toInt = 0 := rfl
  have e2 : (2000000 : Int64).toInt = 2000000 := rfl
  have e3 : (355 : Int64).toInt = 355 := rfl
  intro q
  rw [fa_eq64, fb_mulL (by rw [e3]; omega) (by rw [e3]; omega)] at q
  rw [e3, e0] at q
  omega
theorem nz_k {k : Int64} {n : Int32} (h : 0 < n) (hk : 0 < k.toInt) (hk2 : k.toInt ≤ 1000) : ¬ k * n.toInt64 = 0 := by
  rw [fa_lt] at h
  have e0 : (0 : Int32).toInt = 0 := rfl
  have h9 := fb_rng n
  have e1 : (n.toInt64).toInt = n.toInt := Int32.toInt_toInt64 n
  have hb : 0 < k.toInt * n.toInt := Int.mul_pos hk (by omega)
  have hb2 : k.toInt * n.toInt ≤ 1000 * 2147483648 := Int.mul_le_mul hk2 (by omega) (by omega) (by omega)
  intro q
  rw [fa_eq64, fb_mulL (by rw [e1]; omega) (by rw [e1]; omega), e1] at q
  have e2 : (0 : Int64).toInt = 0 := rfl
  rw [e2] at q
  omega
theorem ix_d {x : Int32} {n : Nat} (h : 0 ≤ x.toInt ∧ x.toInt < n) : vp_in x n := vp_in_iff.mpr h
theorem ix_3 {n : Int32} (h1 : ¬ n < 0) (h2 : n < 3) : vp_in n 3 := by
  rw [fa_lt] at h1 h2
  have e0 : (0 : Int32).toInt = 0 := rfl
  have e3 : (3 : Int32).toInt = 3 := rfl
  exact ix_in (by omega) (by omega)
