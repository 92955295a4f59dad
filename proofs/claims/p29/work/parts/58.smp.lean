-- small rows for the blocks of a sample
theorem FW2_tr {k : Nat} {fw u fw2 : Nat → Int64} {me v : Int64} (h : FW2 k u fw2 me v) (hu : ∀ i : Nat, i < 20 → ¬ i = 14 → ¬ i = 15 → u (20 * k + i) = fw (20 * k + i)) : FW2 k fw fw2 me v :=
  ⟨fun i hi h10 h14 h15 => (h.1 i hi h10 h14 h15).trans (hu i hi h14 h15), h.2⟩
theorem v14_1 {x15 x14 v : Int64} {n : Int32} (h14 : x14 = 0 ∨ x14 = 1) (h : v = if (1 : Int32) = 0 then 0 else if n = 0 then (if x15 = 1 then 1 else x14) else 0) : v = 0 ∨ (v = 1 ∧ n = 0 ∧ (x15 = 1 ∨ ¬ x14 = 0)) := by
  rw [if_neg (by decide)] at h
  by_cases a : n = 0
  · rw [if_pos a] at h
    by_cases b : x15 = 1
    · rw [if_pos b] at h; exact Or.inr ⟨h, a, Or.inl b⟩
    · rw [if_neg b] at h
      rcases h14 with c | c
      · exact Or.inl (h.trans c)
      · exact Or.inr ⟨h.trans c, a, Or.inr (by rw [c]; decide)⟩
  · rw [if_neg a] at h; exact Or.inl h
theorem k2_of {k : Nat} (hk : k < 3) (h : ¬ (2 : Int32) ≤ nI k) : k < 2 := by
  rcases Nat.lt_or_ge k 2 with c | c
  · exact c
  · exact absurd ((nI_leI (a := 2) (b := k) (by omega) (by omega)).mpr c) h
theorem kh_same {x y : Int32} (h : y = x) : ¬ y - x < (0 : Int32) := by rw [h, Int32.sub_self]; decide
theorem kh_1 {x y : Int32} (h : y = x ∨ y = x + 1) : ¬ y - x < (0 : Int32) ∧ ¬ (1 : Int32) < y - x := by
  rcases h with rfl | rfl
  · rw [Int32.sub_self]; decide
  · rw [Int32.add_comm, Int32.add_sub_cancel]; decide
theorem nlt_of {a b : Int64} (h : b ≤ a) : ¬ a < b := by rw [fa_lt64]; rw [fa_le64] at h; omega
/-- who is starved -/
theorem sv_no0 {x y z : Int32} (h : x = 0 ∨ x = 3) : f_X1_isStarvedBy_j2_1 x y z = 0 := by
  unfold f_X1_isStarvedBy_j2_1 f_X1_isStarvedBy_j1_1
  rcases h with rfl | rfl <;> rfl
theorem sv_no {x y z : Int32} (h : z = 0 ∨ y = 2) : f_X1_isStarvedBy_j2_1 x y z = 0 := by
  unfold f_X1_isStarvedBy_j2_1
  by_cases a : f_X1_isStarvedBy_j1_1 x = 0
  · rw [if_pos a]
  · rw [if_neg a]
    by_cases b : z = 0
    · rw [if_pos b]
    · rw [if_neg b, if_pos (h.resolve_left b)]
theorem sv_yes {x y z : Int32} (h : x = 1 ∨ x = 2) (hz : ¬ z = 0) (hy : ¬ y = 2) : ¬ f_X1_isStarvedBy_j2_1 x y z = 0 := by
  unfold f_X1_isStarvedBy_j2_1
  have a : ¬ f_X1_isStarvedBy_j1_1 x = 0 := by
    unfold f_X1_isStarvedBy_j1_1
    rcases h with rfl | rfl <;> decide
  rw [if_neg a, if_neg hz, if_neg hy]
  decide
/-- the law's test of the measure, by the turn -/
theorem me_of {k : Nat} {s v u : LT} {fw fu fg : Nat → Int64} {fn : Nat → Int32} (h : RP k s fw fu fg fn) (hv : u = gOn v) (ho : Ime (yl_lou v))
    (e1 : yl_pa1 v = yl_pa1 s) (e2 : yl_pa2 v = yl_pa2 s) (e3 : yl_pb v = yl_pb s) (e4 : yl_pdt v = yl_pdt s) (e5 : yl_pld v = yl_pld s) (e6 : yl_pme v = yl_pme s) (e7 : yl_pmb v = yl_pmb s) (e8 : yl_plt v = yl_plt s) (e9 : yl_po v = yl_po s) :
    ∀ fwm fu2 : Nat → Int64, FU2 k fu fu2 (yl_lou u) → (∀ i : Nat, i < 14 → fwm (20 * k + i) = fw (20 * k + i)) → ∃ d : Nat, d < 11 ∧ (fwm (20 * k + 3)).toInt32 = nI d ∧ yl_pme u = lx_next fwm fu2 k d (yl_pme s) := by
  intro fwm fu2 hu hw
  rw [hv, gO_lou] at hu
  rw [hv]
  exact (ks_me h hw hu ho e1 e2 e3 e4 e5 e6 e7 e8 e9).1
theorem bool_1 {x : Int32} {y : Int64} (h : y = x.toInt64) (hx : Ist x) : (y = 1 → x = 1) ∧ (¬ y = 1 → x = 0) := by
  rcases hx with rfl | rfl
  · exact ⟨fun q => by rw [h] at q; exact absurd q (by decide), fun _ => rfl⟩
  · exact ⟨fun _ => rfl, fun q => absurd (by rw [h]; rfl) q⟩
/-- rows as the law leaves them, for the questions that don't ask for them -/
def upF (k : Nat) (fu : Nat → Int64) (ou : Int64) : Nat → Int64 := fun i => if i = 11 * k then ou else fu (i - 1)
theorem upF_ok (k : Nat) (fu : Nat → Int64) (ou : Int64) : FU2 k fu (upF k fu ou) ou := by
  refine ⟨if_pos rfl, fun i hi => ?_⟩
  unfold upF
  rw [if_neg (by omega), show 11 * k + (i + 1) - 1 = 11 * k + i by omega]
def upW (k : Nat) (fw : Nat → Int64) (me : Int64) : Nat → Int64 := vp_updL (vp_updL (vp_updL fw (20 * k + 10) me) (20 * k + 14) 0) (20 * k + 15) 0
theorem upW_ok (k : Nat) (fw : Nat → Int64) (me : Int64) : FW2 k fw (upW k fw me) me 0 := by
  refine ⟨fun i hi h10 h14 h15 => ?_, ?_, ?_, ?_⟩
  · unfold upW; rw [ul_ne _ _ (by omega), ul_ne _ _ (by omega), ul_ne _ _ (by omega)]
  · unfold upW; rw [ul_ne _ _ (by omega), ul_ne _ _ (by omega), ul_eq]
  · unfold upW; rw [ul_ne _ _ (by omega), ul_eq]
  · unfold upW; rw [ul_eq]
