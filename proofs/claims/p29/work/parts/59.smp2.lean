-- the cells of a sample's own rows; invariants read off the books
theorem pe_nw (w : va_W) (z : Nat × va_E) : (w ++ [z]).Perm ([z] ++ w) := List.perm_append_comm
theorem pe_5 (a b c d e : Nat × va_E) (w : va_W) : ([e] ++ ([d] ++ ([c] ++ ([b] ++ ([a] ++ w))))).Perm ([a, b, c, d, e] ++ w) := by
  show ([e, d, c, b, a] ++ w).Perm ([a, b, c, d, e] ++ w)
  exact ((List.reverse_perm [a, b, c, d, e]).append_right w)
theorem RP_iv {k : Nat} {s : LT} {fw fu fg : Nat → Int64} {fn : Nat → Int32} (h : RP k s fw fu fg fn) : IvL s := by
  obtain ⟨p1, p2, p3, p4, p5, p6, p7, ⟨ou, a, a1, a2, -⟩, -⟩ := h
  obtain ⟨-, -, -, -, -, -, -, -, hd, -⟩ := p1
  exact ⟨⟨a, a1, a2⟩, hd⟩
theorem RP_ksp {k : Nat} {s : LT} {fw fu fg : Nat → Int64} {fn : Nat → Int32} (h : RP k s fw fu fg fn) : Ime (yl_ksp s) := by
  obtain ⟨p1, p2, p3, p4, p5, p6, p7, p8, p9, p10, p11, p12, p13, p14, p15⟩ := h
  exact p14.2.2.1
theorem RP_lou {k : Nat} {s : LT} {fw fu fg : Nat → Int64} {fn : Nat → Int32} (h : RP k s fw fu fg fn) : Ime (yl_lou s) := by
  obtain ⟨p1, p2, p3, p4, p5, p6, p7, p8, p9, p10, p11, p12, p13, p14, p15⟩ := h
  exact p14.2.2.2
theorem RP_lma {k : Nat} {s : LT} {fw fu fg : Nat → Int64} {fn : Nat → Int32} (h : RP k s fw fu fg fn) : fw (20 * k + 9) = (yl_lma s).toInt64 ∧ Ist (yl_lma s) := by
  obtain ⟨p1, p2, p3, p4, -⟩ := h
  exact ⟨p4.2.1, p4.2.2.2.1⟩
