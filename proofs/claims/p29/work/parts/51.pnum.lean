-- numbers; the shapes of a loop's fields
def Rp (f : Nat → Int64) (k : Nat) (lt : Int32) (po : Nat → Int64) (ou : Int64) : Prop := ∃ a : Nat, a < 11 ∧ lt = nI a ∧ ou = f (11 * k) ∧ ∀ i : Nat, i < 11 → f (11 * k + i) = po ((a + 11 - i) % 11)
def Gb (p i d : Int32) : Prop := -20000 ≤ p.toInt ∧ p.toInt ≤ 20000 ∧ -5000 ≤ i.toInt ∧ i.toInt ≤ 5000 ∧ -50000 ≤ d.toInt ∧ d.toInt ≤ 50000
def Ilim (lo hi : Int32) : Prop := lo.toInt ≤ hi.toInt ∧ -1000000 ≤ lo.toInt ∧ hi.toInt ≤ 1000000
def Imd (md : Int32) : Prop := md = 0 ∨ md = 1 ∨ md = 2 ∨ md = 3
def Im0 (md ma : Int32) : Prop := ¬ md = 2 ∧ ma = 0
def Ime (x : Int64) : Prop := -1000000 ≤ x.toInt ∧ x.toInt ≤ 1000000
def Ist (x : Int32) : Prop := x = 0 ∨ x = 1
def Igl (g l : Int64) : Prop := l.toInt ≤ g.toInt ∧ -1000000 ≤ l.toInt ∧ g.toInt ≤ 1000000
def fq (v by1 : Int64) : Int64 := if ((v / by1) * by1) ≤ v then (v / by1) else ((v / by1) - (1 : Int64))
theorem xr_64 (x y : Int64) : (0 : Int64) ≤ x ^^^ y ↔ (x.toInt < 0 ↔ y.toInt < 0) := by
  have hx : x.toBitVec.msb = decide (x.toInt < 0) := BitVec.msb_eq_toInt
  have hy : y.toBitVec.msb = decide (y.toInt < 0) := BitVec.msb_eq_toInt
  have hz : (x ^^^ y).toBitVec.msb = decide ((x ^^^ y).toInt < 0) := BitVec.msb_eq_toInt
  have e : (x ^^^ y).toBitVec.msb = (x.toBitVec.msb ^^ y.toBitVec.msb) := by rw [Int64.toBitVec_xor, BitVec.msb_xor]
  rw [hx, hy, hz] at e
  rw [fa_le64]
  have z0 : (0 : Int64).toInt = 0 := rfl
  rw [z0]
  by_cases a : x.toInt < 0 <;> by_cases b : y.toInt < 0 <;> by_cases c : (x ^^^ y).toInt < 0 <;> simp [a, b, c] at e ⊢ <;> omega
theorem dv_64 {x y : Int64} (hy : 0 < y.toInt) : (x / y).toInt = x.toInt.tdiv y.toInt := Int64.toInt_div_of_ne_right x y (fun q => by rw [q] at hy; exact absurd hy (by decide))
theorem un_y {a b x y : Int} (hy : 0 < y) (h1 : a * y ≤ x) (h2 : x < (a + 1) * y) (h3 : b * y ≤ x) (h4 : x < (b + 1) * y) : a = b := by
  have e1 := Int.lt_of_mul_lt_mul_right (Int.lt_of_le_of_lt h1 h4) (Int.le_of_lt hy)
  have e2 := Int.lt_of_mul_lt_mul_right (Int.lt_of_le_of_lt h3 h2) (Int.le_of_lt hy)
  omega
theorem fd_eqy {x y : Int64} (hy : 0 < y.toInt) : f_J9_floorDiv_f86c9_r x y = fq x y ∧ (fq x y).toInt = x.toInt / y.toInt := by
  unfold f_J9_floorDiv_f86c9_r fq
  have hq := dv_64 (x := x) hy
  have hr := fb_rngL x
  have hxy : (0 : Int64) ≤ x ^^^ y ↔ ¬ x.toInt < 0 := by
    rw [xr_64]
    constructor
    · intro h a; have := h.mp a; omega
    · intro h; exact ⟨fun a => absurd a h, fun a => by omega⟩
  have g1 : x.toInt / y.toInt * y.toInt ≤ x.toInt := Int.ediv_mul_le _ (by omega)
  have g2 : x.toInt < (x.toInt / y.toInt + 1) * y.toInt := Int.lt_ediv_add_one_mul_self _ hy
  by_cases a : x.toInt < 0
  · have e : x.toInt.tdiv y.toInt = -((-x.toInt) / y.toInt) := by rw [← Int.tdiv_eq_ediv_of_nonneg (by omega), Int.neg_tdiv, Int.neg_neg]
    have h1 : (-x.toInt) / y.toInt * y.toInt ≤ -x.toInt := Int.ediv_mul_le _ (by omega)
    have h4 : -x.toInt < ((-x.toInt) / y.toInt + 1) * y.toInt := Int.lt_ediv_add_one_mul_self _ hy
    have h0 : 0 ≤ (-x.toInt) / y.toInt := Int.ediv_nonneg (by omega) (by omega)
    have h2 : 0 ≤ (-x.toInt) / y.toInt * y.toInt := Int.mul_nonneg h0 (by omega)
    have h5 : (-x.toInt) / y.toInt ≤ -x.toInt := Int.ediv_le_self _ (by omega)
    generalize hs : (-x.toInt) / y.toInt = s at e h1 h0 h2 h4 h5
    have hm : ((x / y) * y).toInt = -(s * y.toInt) := by
      rw [fb_mulL (by rw [hq, e, Int.neg_mul]; omega) (by rw [hq, e, Int.neg_mul]; omega), hq, e, Int.neg_mul]
    rw [if_neg (fun h => (hxy.mp h) a)]
    rw [Int.add_mul, Int.one_mul] at h4
    by_cases c : x / y * y = x
    · rw [if_pos c, if_pos (by rw [c, fa_le64]; omega)]
      refine ⟨rfl, ?_⟩
      rw [hq, e]
      have hc : x.toInt = -(s * y.toInt) := by rw [← hm, c]
      refine un_y hy ?_ ?_ g1 g2
      · rw [Int.neg_mul]; omega
      · rw [Int.add_mul, Int.neg_mul, Int.one_mul]; omega
    · have c2 : ¬ -(s * y.toInt) = x.toInt := fun d => c (by rw [fa_eq64, hm]; exact d)
      have c3 : ¬ x / y * y ≤ x := by rw [fa_le64, hm]; omega
      rw [if_neg c, if_neg c3]
      refine ⟨rfl, ?_⟩
      have z1 : (1 : Int64).toInt = 1 := rfl
      have h6 : s * 1 ≤ s * y.toInt := Int.mul_le_mul_of_nonneg_left (by omega) h0
      rw [Int.mul_one] at h6
      rw [fb_subL (by rw [hq, e, z1]; omega) (by rw [hq, e, z1]; omega), hq, e, z1]
      refine un_y hy ?_ ?_ g1 g2
      · rw [Int.sub_mul, Int.neg_mul, Int.one_mul]; omega
      · rw [Int.sub_add_cancel, Int.neg_mul]; omega
  · have e : x.toInt.tdiv y.toInt = x.toInt / y.toInt := Int.tdiv_eq_ediv_of_nonneg (by omega)
    have h0 : 0 ≤ x.toInt / y.toInt := Int.ediv_nonneg (by omega) (by omega)
    have h2 : 0 ≤ x.toInt / y.toInt * y.toInt := Int.mul_nonneg h0 (by omega)
    have hm : ((x / y) * y).toInt = x.toInt / y.toInt * y.toInt := by
      rw [fb_mulL (by rw [hq, e]; omega) (by rw [hq, e]; omega), hq, e]
    rw [if_pos (hxy.mpr a), if_pos (by rw [fa_le64, hm]; exact g1)]
    exact ⟨rfl, by rw [hq, e]⟩
theorem fd_eq (x : Int64) : f_J9_floorDiv_f86c9_r x (1000 : Int64) = fq x (1000 : Int64) := (fd_eqy (by decide)).1
theorem hw_eq {v lo hi : Int64} (h : lo.toInt ≤ hi.toInt) : f_X5_hold_r v lo hi = f_L_within_j1_1 v lo hi := by
  unfold f_X5_hold_r f_L_within_j1_1
  by_cases a : v < hi
  · rw [if_pos a]
    by_cases b : v < lo
    · have c : ¬ lo ≤ v := by rw [fa_le64]; rw [fa_lt64] at b; omega
      rw [if_pos b, if_neg c]
    · have c : lo ≤ v := by rw [fa_le64]; rw [fa_lt64] at b; omega
      have d : v ≤ hi := by rw [fa_le64]; rw [fa_lt64] at a; omega
      rw [if_neg b, if_pos c, if_pos d]
  · rw [if_neg a]
    have b : ¬ hi < lo := by rw [fa_lt64]; omega
    rw [if_neg b]
    have c : lo ≤ v := by rw [fa_le64]; rw [fa_lt64] at a; omega
    rw [if_pos c]
    by_cases d : v ≤ hi
    · rw [if_pos d, fa_eq64]; rw [fa_le64] at d; rw [fa_lt64] at a; omega
    · rw [if_neg d]
theorem wl_eq {klo khi : Int32} (h : Ilim klo khi) (v : Int64) : f_X0_withinLimits_r klo khi v = f_L_within_j1_1 v klo.toInt64 khi.toInt64 := hw_eq (by rw [Int32.toInt_toInt64, Int32.toInt_toInt64]; exact h.1)
theorem wi_b {v lo hi : Int64} (h : lo.toInt ≤ hi.toInt) : lo.toInt ≤ (f_L_within_j1_1 v lo hi).toInt ∧ (f_L_within_j1_1 v lo hi).toInt ≤ hi.toInt := by
  unfold f_L_within_j1_1
  by_cases a : lo ≤ v
  · rw [if_pos a]
    rw [fa_le64] at a
    by_cases b : v ≤ hi
    · rw [if_pos b]; rw [fa_le64] at b; omega
    · rw [if_neg b]; omega
  · rw [if_neg a]; omega
theorem fl_int {x : Int64} (h : -9000000000000000000 ≤ x.toInt) : (f_L_floor_r x 1000).toInt = x.toInt / 1000 := by
  have hq := dv_64 (x := x) (y := 1000) (by decide)
  have hr := fb_rngL x
  have z1 : (1000 : Int64).toInt = 1000 := rfl
  have z0 : (0 : Int64).toInt = 0 := rfl
  rw [z1] at hq
  have fin : ∀ y : Int64, y.toInt = 1000 * (x.toInt / 1000) → (y / 1000).toInt = x.toInt / 1000 := by
    intro y hy
    rw [dv_64 (x := y) (y := 1000) (by decide), z1, hy]
    exact Int.mul_tdiv_cancel_left _ (by decide)
  unfold f_L_floor_r f_L_floor_j1_1
  by_cases a : x.toInt < 0
  · have e : x.toInt.tdiv 1000 = -((-x.toInt) / 1000) := by rw [← Int.tdiv_eq_ediv_of_nonneg (by omega), Int.neg_tdiv, Int.neg_neg]
    have hm : (x / 1000 * 1000).toInt = -((-x.toInt) / 1000) * 1000 := by
      rw [fb_mulL (by rw [hq, e, z1]; omega) (by rw [hq, e, z1]; omega), hq, e, z1]
    have hl : (x - x / 1000 * 1000).toInt = x.toInt + (-x.toInt) / 1000 * 1000 := by
      rw [fb_subL (by rw [hm]; omega) (by rw [hm]; omega), hm]; omega
    by_cases c : (0 : Int64) ≤ x - x / 1000 * 1000
    · rw [if_pos c]
      rw [fa_le64, hl, z0] at c
      refine fin _ ?_
      rw [fb_subL (by rw [hl]; omega) (by rw [hl]; omega), hl]
      omega
    · rw [if_neg c]
      rw [fa_le64, hl, z0] at c
      refine fin _ ?_
      have ha : (x - x / 1000 * 1000 + 1000).toInt = x.toInt + (-x.toInt) / 1000 * 1000 + 1000 := by
        rw [fb_addL (by rw [hl, z1]; omega) (by rw [hl, z1]; omega), hl, z1]
      rw [fb_subL (by rw [ha]; omega) (by rw [ha]; omega), ha]
      omega
  · have e : x.toInt.tdiv 1000 = x.toInt / 1000 := Int.tdiv_eq_ediv_of_nonneg (by omega)
    have hm : (x / 1000 * 1000).toInt = x.toInt / 1000 * 1000 := by
      rw [fb_mulL (by rw [hq, e, z1]; omega) (by rw [hq, e, z1]; omega), hq, e, z1]
    have hl : (x - x / 1000 * 1000).toInt = x.toInt - x.toInt / 1000 * 1000 := by
      rw [fb_subL (by rw [hm]; omega) (by rw [hm]; omega), hm]
    have c : (0 : Int64) ≤ x - x / 1000 * 1000 := by rw [fa_le64, hl, z0]; omega
    rw [if_pos c]
    refine fin _ ?_
    rw [fb_subL (by rw [hl]; omega) (by rw [hl]; omega), hl]
    omega
theorem fd_int {x y : Int64} (hy : 0 < y.toInt) : (f_J9_floorDiv_f86c9_r x y).toInt = x.toInt / y.toInt := by rw [(fd_eqy hy).1]; exact (fd_eqy hy).2
theorem fl_eq {x : Int64} (h : -9000000000000000000 ≤ x.toInt) : f_L_floor_r x 1000 = f_J9_floorDiv_f86c9_r x 1000 := by
  have z1 : (1000 : Int64).toInt = 1000 := rfl
  rw [fa_eq64, fl_int h, fd_int (by decide), z1]
theorem mul_b {x y : Int64} {a b : Int} (ha : 0 ≤ a) (hb : 0 ≤ b) (hx1 : -a ≤ x.toInt) (hx2 : x.toInt ≤ a) (hy1 : -b ≤ y.toInt) (hy2 : y.toInt ≤ b) (hab : a * b < 9223372036854775808) : (x * y).toInt = x.toInt * y.toInt ∧ -(a * b) ≤ x.toInt * y.toInt ∧ x.toInt * y.toInt ≤ a * b := by
  have k : (x.toInt * y.toInt).natAbs ≤ (a * b).natAbs := by
    rw [Int.natAbs_mul, Int.natAbs_mul]
    exact Nat.mul_le_mul (by omega) (by omega)
  have hz : 0 ≤ a * b := Int.mul_nonneg ha hb
  have k1 : -(a * b) ≤ x.toInt * y.toInt := by omega
  have k2 : x.toInt * y.toInt ≤ a * b := by omega
  exact ⟨fb_mulL (by omega) (by omega), k1, k2⟩
theorem fm_1 : ∀ a : Fin 11, f_J9_floorMod_7cf53_r (nI a.1 + (1 : Int32)) (11 : Int32) = nI ((a.1 + 1) % 11) := by decide +kernel
theorem fm_2 : ∀ a d : Fin 11, f_J9_floorMod_7cf53_r (nI a.1 - nI d.1) (11 : Int32) = nI ((a.1 + 11 - d.1) % 11) := by decide +kernel
theorem ring {f f2 : Nat → Int64} {k : Nat} {lt : Int32} {po : Nat → Int64} {ou r : Int64} (hp : Rp f k lt po ou) (h0 : f2 (11 * k) = r) (hs : ∀ i : Nat, i < 10 → f2 (11 * k + (i + 1)) = f (11 * k + i)) : Rp f2 k (f_X2_goOn_plt lt) (f_X2_goOn_po lt po r) r ∧ ∀ d : Nat, d ≤ 10 → (vp_updL po (f_J9_floorMod_7cf53_r (lt + (1 : Int32)) (11 : Int32)).toNatClampNeg r) (f_J9_floorMod_7cf53_r ((f_J9_floorMod_7cf53_r (lt + (1 : Int32)) (11 : Int32)) - nI d) (11 : Int32)).toNatClampNeg = f2 (11 * k + d) := by
  obtain ⟨a, ha, rfl, hou, hi⟩ := hp
  have e1 : f_J9_floorMod_7cf53_r (nI a + (1 : Int32)) (11 : Int32) = nI ((a + 1) % 11) := fm_1 ⟨a, ha⟩
  have hb : (a + 1) % 11 < 11 := Nat.mod_lt _ (by decide)
  have e2 : (nI ((a + 1) % 11)).toNatClampNeg = (a + 1) % 11 := nI_clamp (by omega)
  have key : ∀ i : Nat, i < 11 → f2 (11 * k + i) = vp_updL po ((a + 1) % 11) r (((a + 1) % 11 + 11 - i) % 11) := by
    intro i hi2
    rcases Nat.eq_zero_or_pos i with c | c
    · subst c
      rw [show ((a + 1) % 11 + 11 - 0) % 11 = (a + 1) % 11 by omega, ul_eq]
      exact h0
    · rw [ul_ne _ _ (by omega), show ((a + 1) % 11 + 11 - i) % 11 = (a + 11 - (i - 1)) % 11 by omega, ← hi (i - 1) (by omega), ← hs (i - 1) (by omega), show i - 1 + 1 = i by omega]
  constructor
  · unfold f_X2_goOn_plt f_X2_goOn_po
    rw [e1, e2]
    exact ⟨(a + 1) % 11, hb, rfl, h0.symm, key⟩
  · intro d hd
    rw [e1, e2]
    have e3 : f_J9_floorMod_7cf53_r (nI ((a + 1) % 11) - nI d) (11 : Int32) = nI (((a + 1) % 11 + 11 - d) % 11) := fm_2 ⟨(a + 1) % 11, hb⟩ ⟨d, by omega⟩
    rw [e3, show (nI (((a + 1) % 11 + 11 - d) % 11)).toNatClampNeg = ((a + 1) % 11 + 11 - d) % 11 from nI_clamp (by omega)]
    exact (key d (by omega)).symm
theorem sc_u {j : Nat} (hj : j ≤ 5) (gm : Nat → Int32) (mv : Int64) : ∃ u : Nat, u ≤ j ∧ f_X4_pointsReached_j1_1 (nI j) gm mv = nI u ∧ (∀ i : Nat, i < u → ¬ mv < (gm i).toInt64) ∧ (u < j → mv < (gm u).toInt64) := by
  have le : ∀ m : Nat, m ≤ 5 → (nI j ≤ nI m ↔ j ≤ m) := fun m hm => nI_leI (by omega) (by omega)
  unfold f_X4_pointsReached_j1_1
  by_cases c0 : j ≤ 0
  · rw [if_pos (show nI j ≤ (0 : Int32) from (le 0 (by omega)).mpr c0)]
    exact ⟨0, by omega, rfl, fun i hi => absurd hi (by omega), fun h => absurd h (by omega)⟩
  rw [if_neg (show ¬ nI j ≤ (0 : Int32) from fun h => c0 ((le 0 (by omega)).mp h))]
  by_cases d0 : mv < (gm 0).toInt64
  · rw [if_pos (show mv < (gm (0 : Int32).toNatClampNeg).toInt64 from d0)]
    exact ⟨0, by omega, rfl, fun i hi => absurd hi (by omega), fun _ => d0⟩
  rw [if_neg (show ¬ mv < (gm (0 : Int32).toNatClampNeg).toInt64 from d0)]
  by_cases c1 : j ≤ 1
  · rw [if_pos (show nI j ≤ (1 : Int32) from (le 1 (by omega)).mpr c1)]
    refine ⟨1, by omega, rfl, fun i hi => ?_, fun h => absurd h (by omega)⟩
    rcases (show i = 0 by omega) with rfl
    exact d0
  rw [if_neg (show ¬ nI j ≤ (1 : Int32) from fun h => c1 ((le 1 (by omega)).mp h))]
  by_cases d1 : mv < (gm 1).toInt64
  · rw [if_pos (show mv < (gm (1 : Int32).toNatClampNeg).toInt64 from d1)]
    refine ⟨1, by omega, rfl, fun i hi => ?_, fun _ => d1⟩
    rcases (show i = 0 by omega) with rfl
    exact d0
  rw [if_neg (show ¬ mv < (gm (1 : Int32).toNatClampNeg).toInt64 from d1)]
  by_cases c2 : j ≤ 2
  · rw [if_pos (show nI j ≤ (2 : Int32) from (le 2 (by omega)).mpr c2)]
    refine ⟨2, by omega, rfl, fun i hi => ?_, fun h => absurd h (by omega)⟩
    rcases (show i = 0 ∨ i = 1 by omega) with rfl | rfl
    · exact d0
    · exact d1
  rw [if_neg (show ¬ nI j ≤ (2 : Int32) from fun h => c2 ((le 2 (by omega)).mp h))]
  by_cases d2 : mv < (gm 2).toInt64
  · rw [if_pos (show mv < (gm (2 : Int32).toNatClampNeg).toInt64 from d2)]
    refine ⟨2, by omega, rfl, fun i hi => ?_, fun _ => d2⟩
    rcases (show i = 0 ∨ i = 1 by omega) with rfl | rfl
    · exact d0
    · exact d1
  rw [if_neg (show ¬ mv < (gm (2 : Int32).toNatClampNeg).toInt64 from d2)]
  by_cases c3 : j ≤ 3
  · rw [if_pos (show nI j ≤ (3 : Int32) from (le 3 (by omega)).mpr c3)]
    refine ⟨3, by omega, rfl, fun i hi => ?_, fun h => absurd h (by omega)⟩
    rcases (show i = 0 ∨ i = 1 ∨ i = 2 by omega) with rfl | rfl | rfl
    · exact d0
    · exact d1
    · exact d2
  rw [if_neg (show ¬ nI j ≤ (3 : Int32) from fun h => c3 ((le 3 (by omega)).mp h))]
  by_cases d3 : mv < (gm 3).toInt64
  · rw [if_pos (show mv < (gm (3 : Int32).toNatClampNeg).toInt64 from d3)]
    refine ⟨3, by omega, rfl, fun i hi => ?_, fun _ => d3⟩
    rcases (show i = 0 ∨ i = 1 ∨ i = 2 by omega) with rfl | rfl | rfl
    · exact d0
    · exact d1
    · exact d2
  rw [if_neg (show ¬ mv < (gm (3 : Int32).toNatClampNeg).toInt64 from d3)]
  by_cases c4 : j ≤ 4
  · rw [if_pos (show nI j ≤ (4 : Int32) from (le 4 (by omega)).mpr c4)]
    refine ⟨4, by omega, rfl, fun i hi => ?_, fun h => absurd h (by omega)⟩
    rcases (show i = 0 ∨ i = 1 ∨ i = 2 ∨ i = 3 by omega) with rfl | rfl | rfl | rfl
    · exact d0
    · exact d1
    · exact d2
    · exact d3
  rw [if_neg (show ¬ nI j ≤ (4 : Int32) from fun h => c4 ((le 4 (by omega)).mp h))]
  by_cases d4 : mv < (gm 4).toInt64
  · rw [if_pos (show mv < (gm (4 : Int32).toNatClampNeg).toInt64 from d4)]
    refine ⟨4, by omega, rfl, fun i hi => ?_, fun _ => d4⟩
    rcases (show i = 0 ∨ i = 1 ∨ i = 2 ∨ i = 3 by omega) with rfl | rfl | rfl | rfl
    · exact d0
    · exact d1
    · exact d2
    · exact d3
  rw [if_neg (show ¬ mv < (gm (4 : Int32).toNatClampNeg).toInt64 from d4)]
  refine ⟨5, by omega, rfl, fun i hi => ?_, fun h => absurd h (by omega)⟩
  rcases (show i = 0 ∨ i = 1 ∨ i = 2 ∨ i = 3 ∨ i = 4 by omega) with rfl | rfl | rfl | rfl | rfl
  · exact d0
  · exact d1
  · exact d2
  · exact d3
  · exact d4
