-- what a sample makes of a loop, kind by kind, against the law's books
/-- the law's row w behind the sample of loop k -/
def FW2 (k : Nat) (fw fw2 : Nat → Int64) (me v14 : Int64) : Prop := (∀ i : Nat, i < 20 → ¬ i = 10 → ¬ i = 14 → ¬ i = 15 → fw2 (20 * k + i) = fw (20 * k + i)) ∧ fw2 (20 * k + 10) = me ∧ fw2 (20 * k + 14) = v14 ∧ fw2 (20 * k + 15) = 0
/-- the law's row u behind it -/
def FU2 (k : Nat) (fu fu2 : Nat → Int64) (ou : Int64) : Prop := fu2 (11 * k) = ou ∧ ∀ i : Nat, i < 10 → fu2 (11 * k + (i + 1)) = fu (11 * k + i)
theorem fu_b {k : Nat} {fu fu2 : Nat → Int64} {ou : Int64} (h : FU2 k fu fu2 ou) (ho : Ime ou) (hu : ∀ i : Nat, i < 11 → Ime (fu (11 * k + i))) : ∀ i : Nat, i < 11 → Ime (fu2 (11 * k + i)) := by
  intro i hi
  rcases Nat.eq_zero_or_pos i with c | c
  · subst c
    rw [Nat.add_zero, h.1]; exact ho
  · obtain ⟨q, rfl⟩ : ∃ q, i = q + 1 := ⟨i - 1, by omega⟩
    rw [h.2 q (by omega)]; exact hu q (by omega)
/-- the law's test of the measure; what the plant leaves -/
theorem ks_me {k : Nat} {s v : LT} {fw fwm fu fu2 fg : Nat → Int64} {fn : Nat → Int32} (h : RP k s fw fu fg fn) (hw : ∀ i : Nat, i < 14 → fwm (20 * k + i) = fw (20 * k + i)) (hu : FU2 k fu fu2 (yl_lou v)) (ho : Ime (yl_lou v))
    (e1 : yl_pa1 v = yl_pa1 s) (e2 : yl_pa2 v = yl_pa2 s) (e3 : yl_pb v = yl_pb s) (e4 : yl_pdt v = yl_pdt s) (e5 : yl_pld v = yl_pld s) (e6 : yl_pme v = yl_pme s) (e7 : yl_pmb v = yl_pmb s) (e8 : yl_plt v = yl_plt s) (e9 : yl_po v = yl_po s) :
    (∃ d : Nat, d < 11 ∧ (fwm (20 * k + 3)).toInt32 = nI d ∧ yl_pme (gOn v) = lx_next fwm fu2 k d (yl_pme s)) ∧ Ime (yl_pme (gOn v)) ∧ Rp fu2 k (yl_plt (gOn v)) (yl_po (gOn v)) (yl_lou v) := by
  obtain ⟨p1, p2, p3, p4, p5, p6, p7, p8, p9, p10, p11, p12, p13, p14, p15⟩ := h
  have g := gon_ok (k := k) (v := v) (fw := fwm) (fu := fu) (fu2 := fu2) (by rw [e1, e2, e3, e4, e5]; exact RPl_w p1 (fun i hi => hw i (by omega))) (by rw [e7, hw 10 (by omega)]; exact p5.1) (by rw [e6]; exact p5.2.1) (by rw [e7]; exact p5.2.2) (by rw [e8, e9]; exact p8) hu.1 hu.2 (fu_b hu ho p9)
  rw [e6] at g
  exact g
theorem sp_n2 {s : LT} {lou0 : Int64} (h : ¬ yl_lmo s = 2) : f_X5_takeTurn_1_j1_1 (yl_lmo s) lou0 (yl_ksp s) = yl_ksp s := if_neg h
theorem sp_2 {s : LT} {lou0 : Int64} (h : yl_lmo s = 2) : f_X5_takeTurn_1_j1_1 (yl_lmo s) lou0 (yl_ksp s) = lou0 := if_pos h
/-- by hand -/
theorem ks_H {k : Nat} {s : LT} {sp : Int64} {fw fw2 fu fu2 fg : Nat → Int64} {fn : Nat → Int32} (h : RP k s fw fu fg fn) (h0 : yl_lmo s = 0) (hs : Ime sp) (hu : FU2 k fu fu2 (yl_lou (tH s sp))) (hw : FW2 k fw fw2 (yl_pme s) 0) : RP k (gOn (tH s sp)) fw2 fu2 fg fn := by
  have ho : Ime (yl_lou (tH s sp)) := (Ime_b h.2.1.2.2).1
  have g := ks_me (v := tH s sp) (fwm := fw) h (fun i hi => rfl) hu ho rfl rfl rfl rfl rfl rfl rfl rfl rfl
  obtain ⟨p1, p2, p3, p4, p5, p6, p7, p8, p9, p10, p11, p12, p13, p14, p15⟩ := h
  refine RP_tH ?_
  refine ⟨RPl_w p1 (fun i hi => hw.1 i (by omega) (by omega) (by omega) (by omega)), RLi_w p2 (fun i hi => hw.1 i (by omega) (by omega) (by omega) (by omega)), RHa_w p3 (fun i hi => hw.1 i (by omega) (by omega) (by omega) (by omega)), RTi_w p4 (fun i hi => hw.1 i (by omega) (by omega) (by omega) (by omega)), ⟨hw.2.1, g.2.1, p5.2.1⟩, RRe_n (by rw [h0]; decide), p7, ⟨_, g.2.2⟩, fu_b hu ho p9, p10, p11, RBu_0 hw.2.2.2, RIn_0 hw.2.2.1, ⟨p14.1, p14.2.1, ?_, ho⟩, Or.inl rfl⟩
  unfold f_X1_actByHand_j1_1
  by_cases c : yl_lfo s = 0
  · rw [if_pos c]; exact hs
  · rw [if_neg c]; exact p5.2.1
/-- starved -/
theorem ks_S {k : Nat} {s : LT} {sp ksp2 : Int64} {fw fw2 fu fu2 fg : Nat → Int64} {fn : Nat → Int32} (h : RP k s fw fu fg fn) (h3 : ¬ yl_lmo s = 3) (hs : Ime sp) (hu : FU2 k fu fu2 (yl_lou (tS s sp ksp2))) (hw : FW2 k fw fw2 (yl_pme s) 0) : RP k (gOn (tS s sp ksp2)) fw2 fu2 fg fn := by
  have ho : Ime (yl_lou (tS s sp ksp2)) := (Ime_b h.2.1.2.2).1
  have g := ks_me (v := tS s sp ksp2) (fwm := fw) h (fun i hi => rfl) hu ho rfl rfl rfl rfl rfl rfl rfl rfl rfl
  obtain ⟨p1, p2, p3, p4, p5, p6, p7, p8, p9, p10, p11, p12, p13, p14, p15⟩ := h
  refine RP_tS ?_
  exact ⟨RPl_w p1 (fun i hi => hw.1 i (by omega) (by omega) (by omega) (by omega)), RLi_w p2 (fun i hi => hw.1 i (by omega) (by omega) (by omega) (by omega)), RHa_w p3 (fun i hi => hw.1 i (by omega) (by omega) (by omega) (by omega)), RTi_w p4 (fun i hi => hw.1 i (by omega) (by omega) (by omega) (by omega)), ⟨hw.2.1, g.2.1, p5.2.1⟩, RRe_n h3, p7, ⟨_, g.2.2⟩, fu_b hu ho p9, p10, p11, RBu_0 hw.2.2.2, RIn_0 hw.2.2.1, ⟨p14.1, p14.2.1, hs, ho⟩, Or.inr rfl⟩
/-- the numbers of an automatic turn -/
def aP (s : LT) : Int32 := SG (yl_sn s) (yl_gm s) (yl_gp s) (yl_kp s) (yl_pme s)
def aI (s : LT) : Int32 := SG (yl_sn s) (yl_gm s) (yl_gi s) (yl_ki s) (yl_pme s)
def aD (s : LT) : Int32 := SG (yl_sn s) (yl_gm s) (yl_gd s) (yl_kd s) (yl_pme s)
def aK (s : LT) (sp : Int64) : Int64 := KI (yl_sn s) (yl_gm s) (yl_gp s) (yl_gd s) (yl_kp s) (yl_kd s) sp (yl_kig s) (yl_pme s) (yl_pmb s)
def aS (s : LT) (sp : Int64) : Int64 := (((aP s).toInt64 * (sp - yl_pme s)) + (aK s sp + ((aI s).toInt64 * (sp - yl_pme s)))) + ((aD s).toInt64 * (yl_pmb s - yl_pme s))
def aW (s : LT) (sp : Int64) : Int64 := f_J9_floorDiv_f86c9_r (aS s sp) (1000 : Int64)
theorem a_lou (s : LT) (sp : Int64) : yl_lou (tA s sp) = f_X0_withinLimits_r (yl_klo s) (yl_khi s) (aW s sp) := by
  rw [tA_lou, x_lou]
  rfl
theorem a_kp (s : LT) (sp : Int64) : yl_kp (tA s sp) = aP s := by
  rw [tA_kp]
  rfl
theorem a_ki (s : LT) (sp : Int64) : yl_ki (tA s sp) = aI s := by
  rw [tA_ki]
  rfl
theorem a_kd (s : LT) (sp : Int64) : yl_kd (tA s sp) = aD s := by
  rw [tA_kd]
  rfl
theorem a_khe (s : LT) (sp : Int64) : yl_khe (tA s sp) = if f_X0_withinLimits_r (yl_klo s) (yl_khi s) (aW s sp) = aW s sp then yl_khe s else yl_khe s + 1 := by
  rw [tA_khe, x_khe]
  rfl
theorem a_ksu (s : LT) (sp : Int64) : yl_ksu (tA s sp) = if yl_kgo s = 0 then aS s sp else yl_ksu s + ((((aP s).toInt64 * ((sp - yl_pme s) - yl_kle s)) + ((aI s).toInt64 * (sp - yl_pme s))) + ((aD s).toInt64 * ((yl_pmb s - yl_pme s) - yl_klr s))) := by
  rw [tA_ksu, x_ksu (klo := yl_klo s) (khi := yl_khi s)]
  rfl
theorem a_kig (s : LT) (sp : Int64) : yl_kig (tA s sp) = f_X0_guardAgainstWindup_j3_1 (aI s) (yl_klo s) (yl_khi s) (yl_kgu s) (yl_ksh s) (aK s sp + ((aI s).toInt64 * (sp - yl_pme s))) (sp - yl_pme s) (aW s sp) (f_X0_withinLimits_r (yl_klo s) (yl_khi s) (aW s sp)) := by
  rw [tA_kig, x_kig]
  rfl
theorem a_kle (s : LT) (sp : Int64) : yl_kle (tA s sp) = sp - yl_pme s := by
  rw [tA_kle]
  rfl
theorem a_klr (s : LT) (sp : Int64) : yl_klr (tA s sp) = yl_pmb s - yl_pme s := by
  rw [tA_klr]
  rfl
/-- held or not -/
theorem a_free {s : LT} {sp : Int64} (h : yl_khe (tA s sp) = yl_khe s) : f_X0_withinLimits_r (yl_klo s) (yl_khi s) (aW s sp) = aW s sp := by
  rw [a_khe] at h
  by_cases c : f_X0_withinLimits_r (yl_klo s) (yl_khi s) (aW s sp) = aW s sp
  · exact c
  · rw [if_neg c] at h; exact absurd h (khe_1 _)
/-- the sum by increments of a sample that isn't held, without points -/
theorem a_inc {k : Nat} {s : LT} {sp : Int64} {fw fu fg : Nat → Int64} {fn : Nat → Int32} (h : RP k s fw fu fg fn) (hf : yl_khe (tA s sp) = yl_khe s) (hn : yl_sn s = 0) (hw : fw (20 * k + 15) = 1 ∨ ¬ fw (20 * k + 14) = 0) :
    yl_ksu (tA s sp) = aS s sp ∧ yl_kig (tA s sp) = aK s sp + ((aI s).toInt64 * (sp - yl_pme s)) ∧ f_X5_outputByIncrements_r (yl_ksu (tA s sp)) = yl_lou (tA s sp) := by
  obtain ⟨p1, p2, p3, p4, p5, p6, p7, p8, p9, p10, p11, p12, p13, p14, p15⟩ := h
  have c := a_free hf
  have e1 : yl_ksu (tA s sp) = aS s sp := by
    rw [a_ksu]
    rcases hw with a | a
    · rcases p12 with b | b
      · rw [b] at a; exact absurd a (by decide)
      · rw [if_pos b.2.2.1]
    · rcases p13 with b | ⟨b1, b2, b3, b4⟩
      · exact absurd b a
      · rw [if_neg (by rw [b2]; decide), b4]
        unfold aS aP aI aD aK KI
        rw [hn, SG_0, SG_0, SG_0, if_pos (by decide)]
        grind
  have e2 : yl_kig (tA s sp) = aK s sp + ((aI s).toInt64 * (sp - yl_pme s)) := by
    have b := (Ime_b (x := aW s sp) p2.2.2).2
    rw [c] at b
    rw [a_kig, c]
    exact gw_no b.1 b.2
  refine ⟨e1, e2, ?_⟩
  rw [e1, a_lou, c]
  rfl
/-- behind going from hand to automatic -/
theorem a_bump {k : Nat} {s : LT} {fw fu fg : Nat → Int64} {fn : Nat → Int32} (h : RP k s fw fu fg fn) (hG : Gb (aP s) (aI s) (aD s)) (h15 : fw (20 * k + 15) = 1) :
    yl_lou (tA s (yl_ksp s)) = f_L_within_j1_1 ((fw (20 * k + 16)) + (f_L_floor_r ((aI s).toInt64 * (yl_ksp s - yl_pme s)) (1000 : Int64))) (fw (20 * k + 5)) (fw (20 * k + 6)) := by
  obtain ⟨p1, p2, p3, p4, p5, p6, p7, p8, p9, p10, p11, p12, p13, p14, p15⟩ := h
  rcases p12 with b | ⟨b1, b2, b3, b4, b5⟩
  · rw [b] at h15; exact absurd h15 (by decide)
  have hs := KI_sum (sn := yl_sn s) (gm := yl_gm s) (gp := yl_gp s) (gi := yl_gi s) (gd := yl_gd s) (kp := yl_kp s) (ki := yl_ki s) (kd := yl_kd s) (ksp := yl_ksp s) (kig := yl_kig s) (pme := yl_pme s) (pmb := yl_pmb s) p11 hG
  have hz : aS s (yl_ksp s) = 1000 * fw (20 * k + 16) + (aI s).toInt64 * (yl_ksp s - yl_pme s) := by
    have : (aP s).toInt64 * (yl_ksp s - yl_pme s) + aK s (yl_ksp s) + (aD s).toInt64 * (yl_pmb s - yl_pme s) = 1000 * fw (20 * k + 16) := by
      show (SG (yl_sn s) (yl_gm s) (yl_gp s) (yl_kp s) (yl_pme s)).toInt64 * (yl_ksp s - yl_pme s) + KI (yl_sn s) (yl_gm s) (yl_gp s) (yl_gd s) (yl_kp s) (yl_kd s) (yl_ksp s) (yl_kig s) (yl_pme s) (yl_pmb s) + (SG (yl_sn s) (yl_gm s) (yl_gd s) (yl_kd s) (yl_pme s)).toInt64 * (yl_pmb s - yl_pme s) = _
      rw [hs, b5]
      grind
    unfold aS
    rw [← this]
    grind
  have hE : (yl_ksp s - yl_pme s).toInt = (yl_ksp s).toInt - (yl_pme s).toInt := by
    have a1 := p14.2.2.1; have a2 := p5.2.1
    unfold Ime at a1 a2
    exact fb_subL (by omega) (by omega)
  have hm := mul_b (x := (aI s).toInt64) (y := yl_ksp s - yl_pme s) (a := 5000) (b := 2000000) (by decide) (by decide) (by rw [Int32.toInt_toInt64]; unfold Gb at hG; omega) (by rw [Int32.toInt_toInt64]; unfold Gb at hG; omega) (by have a1 := p14.2.2.1; have a2 := p5.2.1; unfold Ime at a1 a2; omega) (by have a1 := p14.2.2.1; have a2 := p5.2.1; unfold Ime at a1 a2; omega) (by decide)
  rw [a_lou]
  unfold aW
  rw [hz, fl_bump b4 (by rw [hm.1]; omega) (by rw [hm.1]; omega), wl_eq p2.2.2, p2.1, p2.2.1]
/-- automatic -/
theorem ks_A {k : Nat} {s : LT} {sp v14 : Int64} {fw fw2 fu fu2 fg : Nat → Int64} {fn : Nat → Int32} (h : RP k s fw fu fg fn) (h3 : ¬ yl_lmo s = 3) (hG : Gb (aP s) (aI s) (aD s)) (hs : Ime sp) (hu : FU2 k fu fu2 (yl_lou (tA s sp))) (hw : FW2 k fw fw2 (yl_pme s) v14)
    (hv : v14 = 0 ∨ (v14 = 1 ∧ yl_sn s = 0 ∧ yl_khe (tA s sp) = yl_khe s ∧ (fw (20 * k + 15) = 1 ∨ ¬ fw (20 * k + 14) = 0))) : RP k (gOn (tA s sp)) fw2 fu2 fg fn := by
  have ho : Ime (yl_lou (tA s sp)) := (Ime_b h.2.1.2.2).1
  have g := ks_me (v := tA s sp) (fwm := fw) h (fun i hi => rfl) hu ho rfl rfl rfl rfl rfl rfl rfl rfl rfl
  have hi : RIn k fw2 (yl_sn s) 1 (yl_kp (tA s sp)) (yl_kd (tA s sp)) (yl_ksu (tA s sp)) (yl_kig (tA s sp)) (yl_kle (tA s sp)) (yl_klr (tA s sp)) := by
    rcases hv with c | ⟨c1, c2, c3, c4⟩
    · exact Or.inl (hw.2.2.1.trans c)
    · have e := a_inc h c3 c2 c4
      refine Or.inr ⟨hw.2.2.1.trans c1, rfl, c2, ?_⟩
      rw [e.1, e.2.1, a_kp, a_kd, a_kle, a_klr]
      unfold aS
      grind
  obtain ⟨p1, p2, p3, p4, p5, p6, p7, p8, p9, p10, p11, p12, p13, p14, p15⟩ := h
  refine RP_tA ?_
  exact ⟨RPl_w p1 (fun i hi => hw.1 i (by omega) (by omega) (by omega) (by omega)), RLi_w p2 (fun i hi => hw.1 i (by omega) (by omega) (by omega) (by omega)), RHa_w p3 (fun i hi => hw.1 i (by omega) (by omega) (by omega) (by omega)), RTi_w p4 (fun i hi => hw.1 i (by omega) (by omega) (by omega) (by omega)), ⟨hw.2.1, g.2.1, p5.2.1⟩, RRe_n h3, p7, ⟨_, g.2.2⟩, fu_b hu ho p9, p10, hG, RBu_0 hw.2.2.2, hi, ⟨p14.1, p14.2.1, hs, ho⟩, Or.inl rfl⟩
theorem aG {k : Nat} {s : LT} {fw fu fg : Nat → Int64} {fn : Nat → Int32} (h : RP k s fw fu fg fn) : Gb (aP s) (aI s) (aD s) := by
  obtain ⟨p1, p2, p3, p4, p5, p6, p7, p8, p9, ⟨j, q1, q2, q3, q4, q5⟩, p11, -⟩ := h
  unfold aP aI aD
  rw [q2]
  exact SG_gb q1 q5 (fun i hi => by have := (q4 i hi).2.2.2.2.1; omega) (fun i hi => (q4 i hi).2.2.2.2.2) p11
/-- the gains lie between those of the points, as the law asks it -/
theorem a_btw {k : Nat} {s : LT} {fw fu fg : Nat → Int64} {fn : Nat → Int32} (h : RP k s fw fu fg fn) : ∃ j : Nat, j ≤ 5 ∧ yl_sn s = nI j ∧ fn k = nI j ∧
    (j = 0 ∨ ∃ t1 t2 : Nat, t1 < j ∧ t2 < j ∧ fg (4 * t1 + 20 * k + 0 + 1) ≤ (aP s).toInt64 ∧ (aP s).toInt64 ≤ fg (4 * t2 + 20 * k + 0 + 1)) ∧
    (j = 0 ∨ ∃ t1 t2 : Nat, t1 < j ∧ t2 < j ∧ fg (4 * t1 + 20 * k + 1 + 1) ≤ (aI s).toInt64 ∧ (aI s).toInt64 ≤ fg (4 * t2 + 20 * k + 1 + 1)) ∧
    (j = 0 ∨ ∃ t1 t2 : Nat, t1 < j ∧ t2 < j ∧ fg (4 * t1 + 20 * k + 2 + 1) ≤ (aD s).toInt64 ∧ (aD s).toInt64 ≤ fg (4 * t2 + 20 * k + 2 + 1)) := by
  obtain ⟨p1, p2, p3, p4, p5, p6, p7, p8, p9, ⟨j, q1, q2, q3, q4, q5⟩, -⟩ := h
  have hm : ∀ i : Nat, i < j → -1000000 ≤ (yl_gm s i).toInt ∧ (yl_gm s i).toInt ≤ 1000000 := fun i hi => by have := (q4 i hi).2.2.2.2.1; omega
  have gb : ∀ i : Nat, i < j → Gb (yl_gp s i) (yl_gi s i) (yl_gd s i) := fun i hi => (q4 i hi).2.2.2.2.2
  have w : ∀ a b : Int32, a.toInt ≤ b.toInt → a.toInt64 ≤ b.toInt64 := fun a b q => (fa_wide_le a b).mpr ((fa_le a b).mpr q)
  refine ⟨j, q1, q2, q3, ?_, ?_, ?_⟩
  · rcases SG_b (gm := yl_gm s) (gg := yl_gp s) (x := yl_kp s) (me := yl_pme s) q1 q5 hm (fun i hi => by have := gb i hi; unfold Gb at this; omega) with c | ⟨t1, t2, a, b, c, d⟩
    · exact Or.inl c
    · refine Or.inr ⟨t1, t2, a, b, ?_, ?_⟩
      · rw [show 4 * t1 + 20 * k + 0 + 1 = 20 * k + 4 * t1 + 1 by omega, (q4 t1 a).2.1]; unfold aP; rw [q2]; exact w _ _ c
      · rw [show 4 * t2 + 20 * k + 0 + 1 = 20 * k + 4 * t2 + 1 by omega, (q4 t2 b).2.1]; unfold aP; rw [q2]; exact w _ _ d
  · rcases SG_b (gm := yl_gm s) (gg := yl_gi s) (x := yl_ki s) (me := yl_pme s) q1 q5 hm (fun i hi => by have := gb i hi; unfold Gb at this; omega) with c | ⟨t1, t2, a, b, c, d⟩
    · exact Or.inl c
    · refine Or.inr ⟨t1, t2, a, b, ?_, ?_⟩
      · rw [show 4 * t1 + 20 * k + 1 + 1 = 20 * k + 4 * t1 + 2 by omega, (q4 t1 a).2.2.1]; unfold aI; rw [q2]; exact w _ _ c
      · rw [show 4 * t2 + 20 * k + 1 + 1 = 20 * k + 4 * t2 + 2 by omega, (q4 t2 b).2.2.1]; unfold aI; rw [q2]; exact w _ _ d
  · rcases SG_b (gm := yl_gm s) (gg := yl_gd s) (x := yl_kd s) (me := yl_pme s) q1 q5 hm (fun i hi => by have := gb i hi; unfold Gb at this; omega) with c | ⟨t1, t2, a, b, c, d⟩
    · exact Or.inl c
    · refine Or.inr ⟨t1, t2, a, b, ?_, ?_⟩
      · rw [show 4 * t1 + 20 * k + 2 + 1 = 20 * k + 4 * t1 + 3 by omega, (q4 t1 a).2.2.2.1]; unfold aD; rw [q2]; exact w _ _ c
      · rw [show 4 * t2 + 20 * k + 2 + 1 = 20 * k + 4 * t2 + 3 by omega, (q4 t2 b).2.2.2.1]; unfold aD; rw [q2]; exact w _ _ d
