-- numbers of the relation
theorem xr_64 (x y : Int64) : (0 : Int64) ≤ x ^^^ y ↔ (x.toInt < 0 ↔ y.toInt < 0) := by
  have hx : x.toBitVec.msb = decide (x.toInt < 0) := BitVec.msb_eq_toInt
  have hy : y.toBitVec.msb = decide (y.toInt < 0) := BitVec.msb_eq_toInt
  have hz : (x ^^^ y).toBitVec.msb = decide ((x ^^^ y).toInt < 0) := BitVec.msb_eq_toInt
  have e : (x ^^^ y).toBitVec.msb = (x.toBitVec.msb ^^ y.toBitVec.msb) := by rw [Int64.toBitVec_xor, BitVec.msb_xor]
  rw [hx, hy, hz] at e
  rw [fa_le64]
  have z0 : (0 : Int64).toInt = 0 := rfl
  rw [z0]
  by_cases a : x.toInt < 0 <;> by_cases b : y.toInt < 0 <;> by_cases c : (x ^^^ y).toInt < 0 <;> simp [a, b, c] at e ⊢ <;> omega
theorem dv_64 {x y : Int64} (hy : 0 < y.toInt) : (x / y).toInt = x.toInt.tdiv y.toInt := Int64.toInt_div_of_ne_right x y (fun q => by rw [q] at hy; exact absurd hy (by decide))
theorem un_y {a b x y : Int} (hy : 0 < y) (h1 : a * y ≤ x) (h2 : x < (a + 1) * y) (h3 : b * y ≤ x) (h4 : x < (b + 1) * y) : a = b := by
  have e1 := Int.lt_of_mul_lt_mul_right (Int.lt_of_le_of_lt h1 h4) (Int.le_of_lt hy)
  have e2 := Int.lt_of_mul_lt_mul_right (Int.lt_of_le_of_lt h3 h2) (Int.le_of_lt hy)
  omega
theorem fd_eqy {x y : Int64} (hy : 0 < y.toInt) : f_J9_floorDiv_f86c9_r x y = f_X6_floor_j1_1 x y ∧ (f_X6_floor_j1_1 x y).toInt = x.toInt / y.toInt := by
  unfold f_J9_floorDiv_f86c9_r f_X6_floor_j1_1
  have hq := dv_64 (x := x) hy
  have hr := fb_rngL x
  have hxy : (0 : Int64) ≤ x ^^^ y ↔ ¬ x.toInt < 0 := by
    rw [xr_64]
    constructor
    · intro h a; have := h.mp a; omega
    · intro h; exact ⟨fun a => absurd a h, fun a => by omega⟩
  have g1 : x.toInt / y.toInt * y.toInt ≤ x.toInt := Int.ediv_mul_le _ (by omega)
  have g2 : x.toInt < (x.toInt / y.toInt + 1) * y.toInt := Int.lt_ediv_add_one_mul_self _ hy
  by_cases a : x.toInt < 0
  · have e : x.toInt.tdiv y.toInt = -((-x.toInt) / y.toInt) := by rw [← Int.tdiv_eq_ediv_of_nonneg (by omega), Int.neg_tdiv, Int.neg_neg]
    have h1 : (-x.toInt) / y.toInt * y.toInt ≤ -x.toInt := Int.ediv_mul_le _ (by omega)
    have h4 : -x.toInt < ((-x.toInt) / y.toInt + 1) * y.toInt := Int.lt_ediv_add_one_mul_self _ hy
    have h0 : 0 ≤ (-x.toInt) / y.toInt := Int.ediv_nonneg (by omega) (by omega)
    have h2 : 0 ≤ (-x.toInt) / y.toInt * y.toInt := Int.mul_nonneg h0 (by omega)
    have h5 : (-x.toInt) / y.toInt ≤ -x.toInt := Int.ediv_le_self _ (by omega)
    generalize hs : (-x.toInt) / y.toInt = s at e h1 h0 h2 h4 h5
    have hm : ((x / y) * y).toInt = -(s * y.toInt) := by
      rw [fb_mulL (by rw [hq, e, Int.neg_mul]; omega) (by rw [hq, e, Int.neg_mul]; omega), hq, e, Int.neg_mul]
    rw [if_neg (fun h => (hxy.mp h) a)]
    rw [Int.add_mul, Int.one_mul] at h4
    by_cases c : x / y * y = x
    · rw [if_pos c, if_pos (by rw [c, fa_le64]; omega)]
      refine ⟨rfl, ?_⟩
      rw [hq, e]
      have hc : x.toInt = -(s * y.toInt) := by rw [← hm, c]
      refine un_y hy ?_ ?_ g1 g2
      · rw [Int.neg_mul]; omega
      · rw [Int.add_mul, Int.neg_mul, Int.one_mul]; omega
    · have c2 : ¬ -(s * y.toInt) = x.toInt := fun d => c (by rw [fa_eq64, hm]; exact d)
      have c3 : ¬ x / y * y ≤ x := by rw [fa_le64, hm]; omega
      rw [if_neg c, if_neg c3]
      refine ⟨rfl, ?_⟩
      have z1 : (1 : Int64).toInt = 1 := rfl
      have h6 : s * 1 ≤ s * y.toInt := Int.mul_le_mul_of_nonneg_left (by omega) h0
      rw [Int.mul_one] at h6
      rw [fb_subL (by rw [hq, e, z1]; omega) (by rw [hq, e, z1]; omega), hq, e, z1]
      refine un_y hy ?_ ?_ g1 g2
      · rw [Int.sub_mul, Int.neg_mul, Int.one_mul]; omega
      · rw [Int.sub_add_cancel, Int.neg_mul]; omega
  · have e : x.toInt.tdiv y.toInt = x.toInt / y.toInt := Int.tdiv_eq_ediv_of_nonneg (by omega)
    have h0 : 0 ≤ x.toInt / y.toInt := Int.ediv_nonneg (by omega) (by omega)
    have h2 : 0 ≤ x.toInt / y.toInt * y.toInt := Int.mul_nonneg h0 (by omega)
    have hm : ((x / y) * y).toInt = x.toInt / y.toInt * y.toInt := by
      rw [fb_mulL (by rw [hq, e]; omega) (by rw [hq, e]; omega), hq, e]
    rw [if_pos (hxy.mpr a), if_pos (by rw [fa_le64, hm]; exact g1)]
    exact ⟨rfl, by rw [hq, e]⟩
theorem fd_eq (x : Int64) : f_J9_floorDiv_f86c9_r x (1000 : Int64) = f_X6_floor_j1_1 x (1000 : Int64) := (fd_eqy (by decide)).1
theorem hw_eq {v lo hi : Int64} (h : lo.toInt ≤ hi.toInt) : f_X5_hold_r v lo hi = f_X6_within_j1_1 v lo hi := by
  unfold f_X5_hold_r f_X6_within_j1_1
  by_cases a : v < hi
  · rw [if_pos a]
    by_cases b : v < lo
    · have c : ¬ lo ≤ v := by rw [fa_le64]; rw [fa_lt64] at b; omega
      rw [if_pos b, if_neg c]
    · have c : lo ≤ v := by rw [fa_le64]; rw [fa_lt64] at b; omega
      have d : v ≤ hi := by rw [fa_le64]; rw [fa_lt64] at a; omega
      rw [if_neg b, if_pos c, if_pos d]
  · rw [if_neg a]
    have b : ¬ hi < lo := by rw [fa_lt64]; omega
    rw [if_neg b]
    have c : lo ≤ v := by rw [fa_le64]; rw [fa_lt64] at a; omega
    rw [if_pos c]
    by_cases d : v ≤ hi
    · rw [if_pos d, fa_eq64]; rw [fa_le64] at d; rw [fa_lt64] at a; omega
    · rw [if_neg d]
theorem wl_eq {klo khi : Int32} (h : Ilim klo khi) (v : Int64) : f_X0_withinLimits_r klo khi v = f_X6_within_j1_1 v klo.toInt64 khi.toInt64 := hw_eq (by rw [Int32.toInt_toInt64, Int32.toInt_toInt64]; exact h.1)
theorem wi_b {v lo hi : Int64} (h : lo.toInt ≤ hi.toInt) : lo.toInt ≤ (f_X6_within_j1_1 v lo hi).toInt ∧ (f_X6_within_j1_1 v lo hi).toInt ≤ hi.toInt := by
  unfold f_X6_within_j1_1
  by_cases a : lo ≤ v
  · rw [if_pos a]
    rw [fa_le64] at a
    by_cases b : v ≤ hi
    · rw [if_pos b]; rw [fa_le64] at b; omega
    · rw [if_neg b]; omega
  · rw [if_neg a]; omega
theorem t3264 (x : Int32) : x.toInt64.toInt32 = x := by simp
theorem rs_pt {k : Nat} {mp : Int32} {at_ then_ : Nat → Int64} {sn : Int32} {gm gp gi gd : Nat → Int32} (h : Rs k mp at_ then_ sn gm gp gi gd) : mp = sn := by
  obtain ⟨j, h1, h2, h3, -⟩ := h
  rw [h2, h3]
theorem rp_out {f : Nat → Int64} {k : Nat} {lt : Int32} {po : Nat → Int64} {ou : Int64} (h : Rp f k lt po ou) : ou = f (11 * k) := by
  obtain ⟨a, h1, h2, h3, -⟩ := h
  exact h3
theorem ws_eq {x y : Int32} (h : x = y) : f_L_wasStarved_j1_1 y = bzl (if x = 0 then 0 else 1) := by
  subst h
  unfold f_L_wasStarved_j1_1 bzl
  by_cases a : x = 0
  · simp [a]
  · simp [a]
theorem inx2 {wh : Int32} (h : ¬ f_X6_isIn_j1_1 wh (0 : Int32) (2 : Int32) = 0) : wh = 0 ∨ wh = 1 ∨ wh = 2 := by
  have e := is_ok h
  obtain ⟨j, hj, e2⟩ := nI_of2 (M := (2 : Int32)) (n := 2) (x := wh) rfl (by
    rw [fa_lt]; have := in_ok h
    have e0 : (0 : Int32).toInt = 0 := rfl
    omega) e.2
  rcases (show j = 0 ∨ j = 1 ∨ j = 2 by omega) with rfl | rfl | rfl
  · exact Or.inl e2
  · exact Or.inr (Or.inl e2)
  · exact Or.inr (Or.inr e2)
theorem inx1 {wh : Int32} (h : ¬ f_X6_isIn_j1_1 wh (0 : Int32) (1 : Int32) = 0) : wh = 0 ∨ wh = 1 := by
  have e := is_ok h
  obtain ⟨j, hj, e2⟩ := nI_of2 (M := (1 : Int32)) (n := 1) (x := wh) rfl (by
    rw [fa_lt]; have := in_ok h
    have e0 : (0 : Int32).toInt = 0 := rfl
    omega) e.2
  rcases (show j = 0 ∨ j = 1 by omega) with rfl | rfl
  · exact Or.inl e2
  · exact Or.inr e2
theorem gx_ok {wh : Int32} (h : f_X5_gain_x wh = 0) : wh = 0 ∨ wh = 1 ∨ wh = 2 := by
  unfold f_X5_gain_x at h
  simp only [rn_eq] at h
  by_cases a : f_X6_isIn_j1_1 wh (0 : Int32) (2 : Int32) = 0
  · simp [a] at h
  · exact inx2 a
theorem gn_eq {f : Nat → Int64} {k : Nat} {kp ki kd wh lp : Int32} (h0 : f (3 * k) = kp.toInt64) (h1 : f (3 * k + 1) = ki.toInt64) (h2 : f (3 * k + 2) = kd.toInt64) (hk : lp = nI k) (hk3 : k < 3) (hc : f_X5_gain_x wh = 0) : (f_X5_gain_r kp ki kd wh).toInt64 = (f (((3 : Int32) * lp) + wh).toNatClampNeg).toInt32.toInt64 := by
  have e : ∀ j : Nat, j < 3 → (((3 : Int32) * lp) + nI j).toNatClampNeg = 3 * k + j := fun j hj => by
    rcases (show k = 0 ∨ k = 1 ∨ k = 2 by omega) with rfl | rfl | rfl <;> rcases (show j = 0 ∨ j = 1 ∨ j = 2 by omega) with rfl | rfl | rfl <;> subst hk <;> rfl
  unfold f_X5_gain_r f_X5_gain_j1_1
  rcases gx_ok hc with rfl | rfl | rfl
  · rw [show (((3 : Int32) * lp) + 0).toNatClampNeg = 3 * k + 0 from e 0 (by omega), Nat.add_zero, h0, t3264]; rfl
  · rw [show (((3 : Int32) * lp) + 1).toNatClampNeg = 3 * k + 1 from e 1 (by omega), h1, t3264]; rfl
  · rw [show (((3 : Int32) * lp) + 2).toNatClampNeg = 3 * k + 2 from e 2 (by omega), h2, t3264]; rfl
theorem ix5 (k j : Nat) (hk : k < 3) (hj : j ≤ 5) : (((5 : Int32) * nI k) + nI j).toNatClampNeg = 5 * k + j := by
  rcases (show k = 0 ∨ k = 1 ∨ k = 2 by omega) with rfl | rfl | rfl <;> rcases (show j = 0 ∨ j = 1 ∨ j = 2 ∨ j = 3 ∨ j = 4 ∨ j = 5 by omega) with rfl | rfl | rfl | rfl | rfl | rfl <;> rfl
theorem ix15 (k j : Nat) (hk : k < 3) (hj : j ≤ 5) : ((3 : Int32) * (((5 : Int32) * nI k) + nI j)).toNatClampNeg = 3 * (5 * k + j) := by
  rcases (show k = 0 ∨ k = 1 ∨ k = 2 by omega) with rfl | rfl | rfl <;> rcases (show j = 0 ∨ j = 1 ∨ j = 2 ∨ j = 3 ∨ j = 4 ∨ j = 5 by omega) with rfl | rfl | rfl | rfl | rfl | rfl <;> rfl
theorem ix151 (k j : Nat) (hk : k < 3) (hj : j ≤ 5) : (((3 : Int32) * (((5 : Int32) * nI k) + nI j)) + (1 : Int32)).toNatClampNeg = 3 * (5 * k + j) + 1 := by
  rcases (show k = 0 ∨ k = 1 ∨ k = 2 by omega) with rfl | rfl | rfl <;> rcases (show j = 0 ∨ j = 1 ∨ j = 2 ∨ j = 3 ∨ j = 4 ∨ j = 5 by omega) with rfl | rfl | rfl | rfl | rfl | rfl <;> rfl
theorem ix152 (k j : Nat) (hk : k < 3) (hj : j ≤ 5) : (((3 : Int32) * (((5 : Int32) * nI k) + nI j)) + (2 : Int32)).toNatClampNeg = 3 * (5 * k + j) + 2 := by
  rcases (show k = 0 ∨ k = 1 ∨ k = 2 by omega) with rfl | rfl | rfl <;> rcases (show j = 0 ∨ j = 1 ∨ j = 2 ∨ j = 3 ∨ j = 4 ∨ j = 5 by omega) with rfl | rfl | rfl | rfl | rfl | rfl <;> rfl
theorem ix5m (k j : Nat) (hk : k < 3) (h0 : 0 < j) (hj : j ≤ 5) : ((((5 : Int32) * nI k) + nI j) - (1 : Int32)).toNatClampNeg = 5 * k + (j - 1) := by
  rcases (show k = 0 ∨ k = 1 ∨ k = 2 by omega) with rfl | rfl | rfl <;> rcases (show j = 1 ∨ j = 2 ∨ j = 3 ∨ j = 4 ∨ j = 5 by omega) with rfl | rfl | rfl | rfl | rfl <;> rfl
theorem ixm (j : Nat) (h0 : 0 < j) (hj : j ≤ 5) : (nI j - (1 : Int32)).toNatClampNeg = j - 1 := by
  rcases (show j = 1 ∨ j = 2 ∨ j = 3 ∨ j = 4 ∨ j = 5 by omega) with rfl | rfl | rfl | rfl | rfl <;> rfl
theorem cd_addPoint {pts : Nat → Int32} {at_ then_ : Nat → Int64} {sn : Int32} {gm gp gi gd : Nat → Int32} {lp mev np ni nd : Int32} {k : Nat} (hl : f_X6_isLoop_j1_1 lp = 1) (hk : lp = nI k) (hk3 : k < 3) (hs : Rs k (pts lp.toNatClampNeg) at_ then_ sn gm gp gi gd) : f_X6_addPoint_j2_1 pts at_ lp mev np ni nd = wr123 (f_X5_addPoint_x sn gm mev np ni nd) := by
  obtain ⟨j, h5, hsn, hpt, hp, -⟩ := hs
  have e0 : nI j = 0 ↔ j = 0 := by
    constructor
    · intro h; rcases Nat.eq_zero_or_pos j with q | q; exact q; exact absurd h (nI_ne0 q (by omega))
    · intro h; subst h; rfl
  have e5 : nI j = 5 ↔ j = 5 := by
    constructor
    · intro h
      have := nI_toInt (n := j) (by omega)
      rw [h] at this
      have q : (5 : Int32).toInt = 5 := rfl
      omega
    · intro h; subst h; rfl
  have l0 : nI j ≤ 0 ↔ j = 0 := by rw [fa_le, nI_toInt (by omega)]; have q : (0 : Int32).toInt = 0 := rfl; omega
  have l5 : ¬ (5 : Int32) < nI j := by rw [fa_lt, nI_toInt (by omega)]; have q : (5 : Int32).toInt = 5 := rfl; omega
  have f5 : nI j < 5 ↔ ¬ j = 5 := by rw [fa_lt, nI_toInt (by omega)]; have q : (5 : Int32).toInt = 5 := rfl; omega
  unfold f_X6_addPoint_j2_1 f_X6_addPoint_j1_1 f_X5_addPoint_x f_X5_addPoint_j1_1 f_X4_endsBelow_j1_1 f_X4_isFull_j1_1
  simp only [rw_eq, rg_eq, ra_eq, rs_eq, hl, hpt, hsn, e0, e5, l0, f5]
  by_cases a : f_X6_areGains_j1_1 np ni nd = 0
  · by_cases b : f_X6_isIn_j1_1 mev (-1000000 : Int32) (1000000 : Int32) = 0
    · simp [a, b, wr123]
    · simp [a, b, wr123]
  by_cases b : f_X6_isIn_j1_1 mev (-1000000 : Int32) (1000000 : Int32) = 0
  · simp [a, b, wr123]
  by_cases c : j = 0
  · simp [a, b, c, wr123]
  · have hi := (hp (j - 1) (by omega)).1
    have m1 : mev.toInt64 ≤ at_ ((((5 : Int32) * lp) + nI j) - (1 : Int32)).toNatClampNeg ↔ mev ≤ gm (nI j - (1 : Int32)).toNatClampNeg := by
      rw [hk, ix5m k j hk3 (by omega) h5, hi, fa_wide_le, ixm j (by omega) h5]
    by_cases d : mev ≤ gm (nI j - (1 : Int32)).toNatClampNeg
    · simp [a, b, c, d, m1, l5, wr123]
    · by_cases e : j = 5
      · subst e
        have q : ¬ mev.toInt64 ≤ at_ ((((5 : Int32) * lp) + nI 5) - (1 : Int32)).toNatClampNeg := fun z => d (m1.mp z)
        simp [a, b, d, q, l5, wr123]
      · simp [a, b, c, d, e, m1, l5, wr123]
theorem ap_ok {sn : Int32} {gm : Nat → Int32} {mev np ni nd : Int32} (hc : f_X5_addPoint_x sn gm mev np ni nd = 0) : ¬ f_X6_isIn_j1_1 mev (-1000000 : Int32) (1000000 : Int32) = 0 ∧ ¬ f_X6_areGains_j1_1 np ni nd = 0 ∧ ¬ f_X4_endsBelow_j1_1 sn gm mev = 0 ∧ sn < 5 := by
  unfold f_X5_addPoint_x f_X5_addPoint_j1_1 f_X4_isFull_j1_1 at hc
  simp only [rw_eq, rg_eq, ra_eq, rs_eq] at hc
  by_cases b : f_X6_isIn_j1_1 mev (-1000000 : Int32) (1000000 : Int32) = 0
  · simp [b] at hc
  by_cases a : f_X6_areGains_j1_1 np ni nd = 0
  · simp [a, b] at hc
  by_cases c : f_X4_endsBelow_j1_1 sn gm mev = 0
  · simp [a, b, c] at hc
  by_cases d : sn < 5
  · exact ⟨b, a, c, d⟩
  · simp [a, b, c, d] at hc
theorem al_1 {j : Nat} (h : j < 5) : ¬ nI j < 0 ∧ ¬ (5 : Int32) ≤ nI j := by
  rw [fa_lt, fa_le, nI_toInt (by omega)]
  have q : (5 : Int32).toInt = 5 := rfl
  have q0 : (0 : Int32).toInt = 0 := rfl
  omega
theorem ap_sched {pts : Nat → Int32} {at_ then_ : Nat → Int64} {sn : Int32} {gm gp gi gd : Nat → Int32} {lp mev np ni nd : Int32} {k : Nat} (hk : lp = nI k) (hk3 : k < 3) (hs : Rs k (pts lp.toNatClampNeg) at_ then_ sn gm gp gi gd) (hc : f_X5_addPoint_x sn gm mev np ni nd = 0) : Rs k (upd pts lp.toNatClampNeg ((pts lp.toNatClampNeg) + (1 : Int32)) k) (vp_updL at_ (((5 : Int32) * lp) + (pts lp.toNatClampNeg)).toNatClampNeg (mev.toInt64)) (vp_updL (vp_updL (vp_updL then_ ((3 : Int32) * (((5 : Int32) * lp) + (pts lp.toNatClampNeg))).toNatClampNeg (np.toInt64)) (((3 : Int32) * (((5 : Int32) * lp) + (pts lp.toNatClampNeg))) + (1 : Int32)).toNatClampNeg (ni.toInt64)) (((3 : Int32) * (((5 : Int32) * lp) + (pts lp.toNatClampNeg))) + (2 : Int32)).toNatClampNeg (nd.toInt64)) (f_X4_addLast_j1_1 sn) (f_X4_addLast_j1_2 sn gm mev) (f_X4_addLast_j1_3 sn gp np) (f_X4_addLast_j1_4 sn gi ni) (f_X4_addLast_j1_5 sn gd nd) := by
  obtain ⟨c1, c2, c3, c4⟩ := ap_ok hc
  obtain ⟨j, h5, hsn, hpt, hp, hr⟩ := hs
  subst hk hsn
  rw [hpt]
  have hj : j < 5 := by
    rw [fa_lt, nI_toInt (by omega)] at c4
    have q : (5 : Int32).toInt = 5 := rfl
    omega
  have hkk : (nI k).toNatClampNeg = k := nI_clamp (by omega)
  have hjj : (nI j).toNatClampNeg = j := nI_clamp (by omega)
  obtain ⟨g1, g2⟩ := al_1 hj
  rw [ix5 k j hk3 h5, ix15 k j hk3 h5, ix151 k j hk3 h5, ix152 k j hk3 h5, hkk, u_eq]
  unfold f_X4_addLast_j1_1 f_X4_addLast_j1_2 f_X4_addLast_j1_3 f_X4_addLast_j1_4 f_X4_addLast_j1_5
  rw [if_neg g1, if_neg g2, if_neg g1, if_neg g2, if_neg g1, if_neg g2, if_neg g1, if_neg g2, if_neg g1, if_neg g2, hjj]
  have e1 := in_ok c1
  refine ⟨j + 1, by omega, nI_1 j, nI_1 j, ?_, ?_⟩
  · intro i hi
    by_cases c : i = j
    · subst c
      rw [ul_eq, ul_ne _ _ (by omega), ul_ne _ _ (by omega), ul_eq, ul_ne _ _ (by omega), ul_eq, ul_eq, u_eq, u_eq, u_eq, u_eq]
      exact ⟨rfl, rfl, rfl, rfl, e1.1, e1.2, ag_ok c2⟩
    · rw [ul_ne _ _ (by omega), ul_ne _ _ (by omega), ul_ne _ _ (by omega), ul_ne _ _ (by omega), ul_ne _ _ (by omega), ul_ne _ _ (by omega), ul_ne _ _ (by omega), ul_ne _ _ (by omega), ul_ne _ _ (by omega), ul_ne _ _ (by omega), u_ne _ _ c, u_ne _ _ c, u_ne _ _ c, u_ne _ _ c]
      exact hp i (by omega)
  · intro i hi
    by_cases c : i + 1 = j
    · rw [u_ne _ _ (by omega : ¬ i = j), c, u_eq]
      unfold f_X4_endsBelow_j1_1 at c3
      have z0 : ¬ nI j ≤ 0 := by rw [fa_le, nI_toInt (by omega)]; have q0 : (0 : Int32).toInt = 0 := rfl; omega
      have z5 : ¬ (5 : Int32) < nI j := by rw [fa_lt, nI_toInt (by omega)]; have q : (5 : Int32).toInt = 5 := rfl; omega
      rw [if_neg z0, if_neg z5, ixm j (by omega) h5, show j - 1 = i by omega] at c3
      by_cases d : mev ≤ gm i
      · rw [if_pos d] at c3; exact absurd rfl c3
      · rw [fa_le] at d; omega
    · rw [u_ne _ _ (by omega : ¬ i = j), u_ne _ _ (by omega : ¬ i + 1 = j)]
      exact hr i (by omega)
theorem ap_other {pts : Nat → Int32} {at_ then_ : Nat → Int64} {sn sn2 : Int32} {gm gp gi gd gm2 gp2 gi2 gd2 : Nat → Int32} {lp mev np ni nd v : Int32} {x1 x2 x3 x4 : Int64} {k k2 : Nat} (hk : lp = nI k) (hk3 : k < 3) (hne : ¬ k2 = k) (hs : Rs k (pts lp.toNatClampNeg) at_ then_ sn gm gp gi gd) (hc : f_X5_addPoint_x sn gm mev np ni nd = 0) (h : Rs k2 (pts k2) at_ then_ sn2 gm2 gp2 gi2 gd2) : Rs k2 (upd pts lp.toNatClampNeg v k2) (vp_updL at_ (((5 : Int32) * lp) + (pts lp.toNatClampNeg)).toNatClampNeg x1) (vp_updL (vp_updL (vp_updL then_ ((3 : Int32) * (((5 : Int32) * lp) + (pts lp.toNatClampNeg))).toNatClampNeg x2) (((3 : Int32) * (((5 : Int32) * lp) + (pts lp.toNatClampNeg))) + (1 : Int32)).toNatClampNeg x3) (((3 : Int32) * (((5 : Int32) * lp) + (pts lp.toNatClampNeg))) + (2 : Int32)).toNatClampNeg x4) sn2 gm2 gp2 gi2 gd2 := by
  obtain ⟨c1, c2, c3, c4⟩ := ap_ok hc
  obtain ⟨j, h5, hsn, hpt, hp, hr⟩ := hs
  subst hk hsn
  rw [hpt]
  have hj : j < 5 := by
    rw [fa_lt, nI_toInt (by omega)] at c4
    have q : (5 : Int32).toInt = 5 := rfl
    omega
  have hkk : (nI k).toNatClampNeg = k := nI_clamp (by omega)
  rw [ix5 k j hk3 h5, ix15 k j hk3 h5, ix151 k j hk3 h5, ix152 k j hk3 h5, hkk, u_ne _ _ hne]
  obtain ⟨j2, b5, bsn, bpt, bp, br⟩ := h
  refine ⟨j2, b5, bsn, bpt, fun i hi => ?_, br⟩
  have q : ¬ 5 * k2 + i = 5 * k + j := by omega
  rw [ul_ne _ _ q, ul_ne _ _ (by omega), ul_ne _ _ (by omega), ul_ne _ _ (by omega), ul_ne _ _ (by omega), ul_ne _ _ (by omega), ul_ne _ _ (by omega), ul_ne _ _ (by omega), ul_ne _ _ (by omega), ul_ne _ _ (by omega)]
  exact bp i hi
theorem ap_res {pts : Nat → Int32} {at_ then_ : Nat → Int64} {sn : Int32} {gm gp gi gd : Nat → Int32} {lp mev np ni nd : Int32} {k : Nat} (hs : Rs k (pts lp.toNatClampNeg) at_ then_ sn gm gp gi gd) (hc : f_X5_addPoint_x sn gm mev np ni nd = 0) : (f_X4_addLast_j1_1 sn).toInt64 = (upd pts lp.toNatClampNeg ((pts lp.toNatClampNeg) + (1 : Int32)) lp.toNatClampNeg).toInt64 := by
  obtain ⟨c1, c2, c3, c4⟩ := ap_ok hc
  obtain ⟨j, h5, hsn, hpt, hp, hr⟩ := hs
  subst hsn
  have hj : j < 5 := by
    rw [fa_lt, nI_toInt (by omega)] at c4
    have q : (5 : Int32).toInt = 5 := rfl
    omega
  obtain ⟨g1, g2⟩ := al_1 hj
  unfold f_X4_addLast_j1_1
  rw [u_eq, hpt, if_neg g1, if_neg g2]
theorem nn_div {x y : Int64} (hx : 0 ≤ x.toInt) (hy : 0 < y.toInt) : 0 ≤ (x / y).toInt := by
  rw [dv_64 hy, Int.tdiv_eq_ediv_of_nonneg hx]
  exact Int.ediv_nonneg hx (by omega)
theorem nn_mul {x y : Int64} {A B : Int} (h1 : 0 ≤ x.toInt ∧ x.toInt ≤ A) (h2 : 0 ≤ y.toInt ∧ y.toInt ≤ B) (h : A * B < 9223372036854775808) : (0 ≤ (x * y).toInt ∧ (x * y).toInt ≤ A * B) ∧ (x * y).toInt = x.toInt * y.toInt := by
  have e1 : 0 ≤ x.toInt * y.toInt := Int.mul_nonneg h1.1 h2.1
  have e2 : x.toInt * y.toInt ≤ A * B := Int.mul_le_mul h1.2 h2.2 h2.1 (Int.le_trans h1.1 h1.2)
  have e3 := fb_mulL (x := x) (y := y) (by omega) (by omega)
  rw [e3]
  exact ⟨⟨e1, e2⟩, rfl⟩
theorem ul_eq2 {hm : Nat → Int32} {sm : Nat → Int64} {lp rhe rpe : Int32} {rsw : Int64} (h1 : hm lp.toNatClampNeg = rhe) (h2 : sm lp.toNatClampNeg = rsw) (hi : Isw rsw rpe rhe) (hp : 0 < rsw.toInt) : f_X3_gainAtTheEdge_j1_1 rsw rhe = f_X6_ultimate_r hm sm lp ∧ 0 ≤ (f_X6_ultimate_r hm sm lp).toInt ∧ (f_X6_ultimate_r hm sm lp).toInt ≤ 90400000000 := by
  obtain ⟨i1, i2, i3, i4, i5, -⟩ := hi
  have r1 : (904000 : Int64).toInt = 904000 := rfl
  have r2 : (355 : Int64).toInt = 355 := rfl
  have hh : rhe.toInt64.toInt = rhe.toInt := Int32.toInt_toInt64 _
  have a := nn_mul (x := 904000) (y := rhe.toInt64) (A := 904000) (B := 100000) (by rw [r1]; omega) (by rw [hh]; omega) (by decide)
  have b := nn_mul (x := 355) (y := rsw) (A := 355) (B := 2000000) (by rw [r2]; omega) (by omega) (by decide)
  have b0 : 0 < ((355 : Int64) * rsw).toInt := by rw [b.2, r2]; omega
  unfold f_X3_gainAtTheEdge_j1_1 f_X6_ultimate_r
  rw [h1, h2, if_neg (show ¬ rsw ≤ 0 by rw [fa_le64]; have q : (0 : Int64).toInt = 0 := rfl; omega)]
  refine ⟨?_, nn_div a.1.1 b0, ?_⟩
  · unfold f_J9_floorDiv_f86c9_r
    rw [if_pos]
    rw [xr_64]
    constructor <;> intro h <;> omega
  · rw [dv_64 b0, Int.tdiv_eq_ediv_of_nonneg a.1.1]
    exact Int.le_trans (Int.ediv_le_self _ a.1.1) a.1.2
theorem mn_eq {x c : Int64} (h : 0 ≤ x.toInt) : (if c < x then c else x) = f_X6_within_j1_1 x (0 : Int64) c := by
  unfold f_X6_within_j1_1
  have q : (0 : Int64).toInt = 0 := rfl
  rw [if_pos (show (0 : Int64) ≤ x by rw [fa_le64]; omega)]
  by_cases a : c < x
  · have b : ¬ x ≤ c := by rw [fa_le64]; rw [fa_lt64] at a; omega
    rw [if_pos a, if_neg b]
  · have b : x ≤ c := by rw [fa_le64]; rw [fa_lt64] at a; omega
    rw [if_neg a, if_pos b]
theorem ux_ok {rpr : Int32} {rsw : Int64} (hc : f_X5_ultimateGain_x rpr rsw = 0) : 0 < rsw.toInt := by
  unfold f_X5_ultimateGain_x f_X5_ultimateGain_j1_1 at hc
  simp only [rs_eq] at hc
  by_cases a : rpr = 2
  · by_cases b : rsw ≤ 0
    · simp [a, b] at hc
    · rw [fa_le64] at b
      have q : (0 : Int64).toInt = 0 := rfl
      omega
  · simp [a] at hc
theorem ug_eq {hm : Nat → Int32} {sm : Nat → Int64} {lp rhe rpe rpr : Int32} {rsw : Int64} (h1 : hm lp.toNatClampNeg = rhe) (h2 : sm lp.toNatClampNeg = rsw) (hi : Isw rsw rpe rhe) (hc : f_X5_ultimateGain_x rpr rsw = 0) : (f_X5_ultimateGain_r rsw rhe).toInt64 = (f_X6_ultimate_r hm sm lp).toInt32.toInt64 := by
  unfold f_X5_ultimateGain_r
  rw [(ul_eq2 h1 h2 hi (ux_ok hc)).1]
theorem px_ok {rpr rpe ruv wh : Int32} {rsw : Int64} (hc : f_X5_proposed_x rpr rpe rsw ruv wh = 0) : 0 < rsw.toInt ∧ 0 < rpe.toInt := by
  unfold f_X5_proposed_x f_X5_proposed_j1_1 at hc
  simp only [rs_eq, rn_eq, rw_eq] at hc
  by_cases a1 : f_X6_isIn_j1_1 wh (0 : Int32) (2 : Int32) = 0
  · simp [a1] at hc
  by_cases a2 : f_X6_isIn_j1_1 ruv (0 : Int32) (1 : Int32) = 0
  · simp [a1, a2] at hc
  by_cases a : rpr = 2
  · by_cases b : rsw ≤ 0
    · simp [a1, a2, a, b] at hc
    · by_cases c : rpe ≤ 0
      · simp [a1, a2, a, b, c] at hc
      · rw [fa_le64] at b
        rw [fa_le] at c
        have q : (0 : Int64).toInt = 0 := rfl
        have q2 : (0 : Int32).toInt = 0 := rfl
        omega
  · simp [a1, a2, a] at hc
theorem pr_eq {hm pm : Nat → Int32} {sm : Nat → Int64} {lp rhe rpe rpr ruv wh : Int32} {rsw : Int64} (h1 : hm lp.toNatClampNeg = rhe) (h3 : pm lp.toNatClampNeg = rpe) (h2 : sm lp.toNatClampNeg = rsw) (hi : Isw rsw rpe rhe) (hc : f_X5_proposed_x rpr rpe rsw ruv wh = 0) : (f_X5_proposed_r rpe rsw rhe ruv wh).toInt64 = (if wh = (0 : Int32) then (f_X6_within_j1_1 (f_X6_proposed_j4_1 hm sm lp ruv) (0 : Int64) (20000 : Int64)).toInt32 else (if wh = (1 : Int32) then (f_X6_within_j1_1 (f_X6_proposed_j3_1 hm pm sm lp ruv) (0 : Int64) (5000 : Int64)).toInt32 else (f_X6_within_j1_1 (f_X6_proposed_j2_1 hm pm sm lp ruv) (0 : Int64) (50000 : Int64)).toInt32)).toInt64 := by
  obtain ⟨p1, p2⟩ := px_ok hc
  obtain ⟨g0, g1, g2⟩ := ul_eq2 h1 h2 hi p1
  obtain ⟨i1, i2, i3, i4, i5, i6⟩ := hi
  have hpp : rpe.toInt64.toInt = rpe.toInt := Int32.toInt_toInt64 _
  unfold f_X5_proposed_r f_X3_proposedP_j1_1 f_X3_proposedI_r f_X3_proposedI_j1_1 f_X3_proposedD_j1_1 f_X6_proposed_j4_1 f_X6_proposed_j3_1 f_X6_proposed_j2_1
  rw [g0, h3, if_pos (show (0 : Int32) < rpe by rw [fa_lt]; have q2 : (0 : Int32).toInt = 0 := rfl; omega)]
  generalize f_X6_ultimate_r hm sm lp = g at g1 g2
  have c : ∀ (n : Int64), 0 ≤ n.toInt → n.toInt ≤ 100 → 0 ≤ (n * g).toInt ∧ (n * g).toInt ≤ 100 * 90400000000 := fun n a b => (nn_mul ⟨a, b⟩ ⟨g1, g2⟩ (by decide)).1
  have t : ∀ (n : Int64), 0 < n.toInt → n.toInt ≤ 1000 → 0 < (n * rpe.toInt64).toInt := fun n a b => by
    have := (nn_mul (x := n) (y := rpe.toInt64) (A := 1000) (B := 1000) ⟨by omega, b⟩ ⟨by omega, by omega⟩ (by decide)).2
    rw [this, hpp]
    exact Int.mul_pos a p2
  have ct : ∀ (n : Int64), 0 ≤ n.toInt → n.toInt ≤ 100 → 0 ≤ (n * g * rpe.toInt64).toInt := fun n a b => (nn_mul (c n a b) ⟨by omega, by omega⟩ (B := 1000) (by decide)).1.1
  refine congrArg Int32.toInt64 ?_
  by_cases w0 : wh = 0
  · rw [if_pos w0, if_pos w0]
    by_cases r : ruv = 0
    · rw [if_pos r, mn_eq (nn_div (c 6 (by decide) (by decide)).1 (by decide))]
    · rw [if_neg r, mn_eq (nn_div (c 10 (by decide) (by decide)).1 (by decide))]
  · rw [if_neg w0, if_neg w0]
    by_cases w1 : wh = 1
    · rw [if_pos w1, if_pos w1]
      by_cases r : ruv = 0
      · rw [if_pos r, mn_eq (nn_div (c 12 (by decide) (by decide)).1 (t 10 (by decide) (by decide)))]
      · rw [if_neg r, mn_eq (nn_div (c 100 (by decide) (by decide)).1 (t 484 (by decide) (by decide)))]
    · rw [if_neg w1, if_neg w1]
      by_cases r : ruv = 0
      · rw [if_pos r, mn_eq (nn_div (ct 3 (by decide) (by decide)) (by decide))]
      · rw [if_neg r, mn_eq (nn_div (ct 100 (by decide) (by decide)) (by decide))]
