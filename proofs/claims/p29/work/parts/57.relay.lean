-- a sample of the relay
theorem neg64 {h : Int32} (h0 : 0 ≤ h.toInt) : (-h).toInt64 = -(h.toInt64) := by
  have e := fb_rng h
  rw [fa_eq64, Int32.toInt_toInt64, fb_negI (by omega), Int64.toInt_neg, Int32.toInt_toInt64, fb_bmodL (by omega) (by omega)]
theorem dv_2 {x : Int32} (h : 0 ≤ x.toInt) : (x / 2).toInt = x.toInt / 2 := by
  rw [Int32.toInt_div_of_ne_right _ _ (by decide), Int.tdiv_eq_ediv_of_nonneg h]
  rfl
theorem rl_gl {e pme rgr rle : Int64} {rba rup : Int32} (hg : Igl rgr rle) (hm : Ime pme) : Igl (f_X3_sample_j2_6 rba rup rgr e pme) (f_X3_sample_j2_7 rba rup rle e pme) := by
  obtain ⟨g1, g2, g3⟩ := hg
  obtain ⟨m1, m2⟩ := hm
  have G : Igl (if pme < rgr then rgr else pme) (if pme < rle then pme else rle) := by
    by_cases a : pme < rgr
    · rw [if_pos a]
      rw [fa_lt64] at a
      by_cases b : pme < rle
      · rw [if_pos b]; rw [fa_lt64] at b; exact ⟨by omega, by omega, by omega⟩
      · rw [if_neg b]; exact ⟨by omega, by omega, by omega⟩
    · rw [if_neg a]
      rw [fa_lt64] at a
      by_cases b : pme < rle
      · rw [if_pos b]; rw [fa_lt64] at b; exact ⟨by omega, by omega, by omega⟩
      · rw [if_neg b]; rw [fa_lt64] at b; exact ⟨by omega, by omega, by omega⟩
  unfold f_X3_sample_j2_6 f_X3_sample_j2_7
  by_cases a : f_X3_sample_j1_1 rba rup e = 0
  · rw [if_pos a, if_pos a]; exact G
  · rw [if_neg a, if_neg a]
    by_cases b : rup = 0
    · rw [if_pos b, if_pos b]; exact ⟨by omega, m1, m2⟩
    · rw [if_neg b, if_neg b]; exact G
theorem rl_up {e : Int64} {rba rup : Int32} (h : Ist rup) : Ist (f_X3_sample_j1_1 rba rup e) := by
  unfold f_X3_sample_j1_1
  by_cases a : e ≤ rba.toInt64
  · rw [if_pos a]
    by_cases b : (-rba).toInt64 ≤ e
    · rw [if_pos b]; exact h
    · rw [if_neg b]; exact Or.inl rfl
  · rw [if_neg a]; exact Or.inr rfl
/-- what the relay's sample comes to: it goes on, it is done, or it has failed -/
theorem rl_out {e rgr rle rsw : Int64} {rpe rba rup rsa rri rse : Int32} (hsa : 0 ≤ rsa.toInt ∧ rsa.toInt ≤ 399) (hri : 0 ≤ rri.toInt ∧ rri.toInt ≤ 3)
    (t2 : rri.toInt = 2 → 1 ≤ rse.toInt ∧ rse.toInt ≤ rsa.toInt ∧ (rup = 0 → rse.toInt + 1 ≤ rsa.toInt)) (t3 : rri.toInt = 3 → 1 ≤ rse.toInt ∧ rse.toInt + 2 ≤ rsa.toInt ∧ (rup = 0 → rse.toInt + 3 ≤ rsa.toInt)) (hg : Igl rgr rle) :
    (f_X3_sample_j3_1 1 rba rup rsa rri e = 1 ∧ (0 ≤ (rsa + 1).toInt ∧ (rsa + 1).toInt ≤ 399) ∧ (0 ≤ (f_X3_sample_j2_4 rba rup rri e).toInt ∧ (f_X3_sample_j2_4 rba rup rri e).toInt ≤ 3) ∧
      ((f_X3_sample_j2_4 rba rup rri e).toInt = 2 → 1 ≤ (f_X3_sample_j2_5 rba rup rsa rri rse e).toInt ∧ (f_X3_sample_j2_5 rba rup rsa rri rse e).toInt ≤ (rsa + 1).toInt ∧ (f_X3_sample_j1_1 rba rup e = 0 → (f_X3_sample_j2_5 rba rup rsa rri rse e).toInt + 1 ≤ (rsa + 1).toInt)) ∧
      ((f_X3_sample_j2_4 rba rup rri e).toInt = 3 → 1 ≤ (f_X3_sample_j2_5 rba rup rsa rri rse e).toInt ∧ (f_X3_sample_j2_5 rba rup rsa rri rse e).toInt + 2 ≤ (rsa + 1).toInt ∧ (f_X3_sample_j1_1 rba rup e = 0 → (f_X3_sample_j2_5 rba rup rsa rri rse e).toInt + 3 ≤ (rsa + 1).toInt))) ∨
    (f_X3_sample_j3_1 1 rba rup rsa rri e = 2 ∧ (0 ≤ (f_X3_sample_j2_3 rsw rba rup rri rgr rle e).toInt ∧ (f_X3_sample_j2_3 rsw rba rup rri rgr rle e).toInt ≤ 2000000) ∧ (2 ≤ (f_X3_sample_j2_2 rpe rba rup rsa rri rse e).toInt ∧ (f_X3_sample_j2_2 rpe rba rup rsa rri rse e).toInt ≤ 200)) ∨
    (f_X3_sample_j3_1 1 rba rup rsa rri e = 3 ∧ rsa + 1 = 400) := by
  obtain ⟨g1, g2, g3⟩ := hg
  have q1 : (1 : Int32).toInt = 1 := rfl
  have q2 : (2 : Int32).toInt = 2 := rfl
  have q4 : (4 : Int32).toInt = 4 := rfl
  have q400 : (400 : Int32).toInt = 400 := rfl
  have es : (rsa + 1).toInt = rsa.toInt + 1 := by rw [fb_addI (by omega) (by omega), q1]
  have er : (rri + 1).toInt = rri.toInt + 1 := by rw [fb_addI (by omega) (by omega), q1]
  have f400 : ¬ rsa + 1 < 400 → rsa + 1 = 400 := fun h => by rw [fa_lt, es, q400] at h; rw [fa_eq, es, q400]; omega
  have l400 : rsa + 1 < 400 → (rsa + 1).toInt ≤ 399 := fun h => by rw [fa_lt, q400] at h; omega
  unfold f_X3_sample_j3_1 f_X3_sample_j2_1 f_X3_sample_j2_2 f_X3_sample_j2_3 f_X3_sample_j2_4 f_X3_sample_j2_5 f_X3_noteRise_j1_1 f_X3_noteRise_j2_1 f_X3_noteRise_j2_2 f_X3_noteRise_j2_3 f_X3_noteRise_rri f_X3_noteRise_j1_1
  generalize f_X3_sample_j1_1 rba rup e = U
  by_cases a : U = 0
  · simp only [if_pos a, if_true]
    by_cases z : rsa + 1 < 400
    · have z2 := l400 z
      rw [if_pos z]
      exact Or.inl ⟨rfl, ⟨by omega, z2⟩, hri, fun h => by have := t2 h; exact ⟨by omega, by omega, fun _ => by omega⟩, fun h => by have := t3 h; exact ⟨by omega, by omega, fun _ => by omega⟩⟩
    · rw [if_neg z]
      exact Or.inr (Or.inr ⟨rfl, f400 z⟩)
  · simp only [if_neg a]
    by_cases b : rup = 0
    · simp only [if_pos b]
      by_cases c : rri + 1 < 4
      · simp only [if_pos c, if_true]
        have c3 : rri.toInt + 1 < 4 := by rw [fa_lt, er, q4] at c; exact c
        by_cases z : rsa + 1 < 400
        · have z2 := l400 z
          rw [if_pos z]
          refine Or.inl ⟨rfl, ⟨by omega, z2⟩, by omega, ?_, ?_⟩
          · intro h
            have h2 : rri + 1 = 2 := by rw [fa_eq, q2]; exact h
            rw [if_pos h2]
            exact ⟨by omega, by omega, fun q => absurd q a⟩
          · intro h
            have h2 : ¬ rri + 1 = 2 := by rw [fa_eq, q2]; omega
            rw [if_neg h2]
            have := t2 (by omega)
            have k := this.2.2 b
            exact ⟨by omega, by omega, fun q => absurd q a⟩
        · rw [if_neg z]
          exact Or.inr (Or.inr ⟨rfl, f400 z⟩)
      · simp only [if_neg c, if_neg (show ¬ (2 : Int32) = 1 by decide)]
        have c3 : rri.toInt = 3 := by rw [fa_lt, er, q4] at c; omega
        have c2 : ¬ rri + 1 = 2 := by rw [fa_eq, er, q2]; omega
        simp only [if_neg c2]
        have k := t3 c3
        have k3 := k.2.2 b
        have hsw : (rgr - rle).toInt = rgr.toInt - rle.toInt := fb_subL (by omega) (by omega)
        have hd : (rsa + 1 - rse).toInt = rsa.toInt + 1 - rse.toInt := by rw [fb_subI (by omega) (by omega), es]
        have hq := dv_2 (x := rsa + 1 - rse) (by omega)
        refine Or.inr (Or.inl ⟨trivial, by omega, ?_⟩)
        rw [hq, hd]
        omega
    · simp only [if_neg b, if_true]
      by_cases z : rsa + 1 < 400
      · have z2 := l400 z
        rw [if_pos z]
        exact Or.inl ⟨rfl, ⟨by omega, z2⟩, hri, fun h => by have := t2 h; exact ⟨by omega, by omega, fun q => absurd q a⟩, fun h => by have := t3 h; exact ⟨by omega, by omega, fun q => absurd q a⟩⟩
      · rw [if_neg z]
        exact Or.inr (Or.inr ⟨rfl, f400 z⟩)
/-- the relay's loop behind its turn, against the law's questions -/
def RelayOk (k : Nat) (u : LT) (fw : Nat → Int64) (fn : Nat → Int32) (ou y sp : Int64) : Prop :=
  (¬ ou = (f_L_within_j1_1 ((fw (20 * k + 13)) + (fw (20 * k + 11))) (fw (20 * k + 5)) (fw (20 * k + 6))) → ou = (f_L_within_j1_1 ((fw (20 * k + 13)) - (fw (20 * k + 11))) (fw (20 * k + 5)) (fw (20 * k + 6)))) ∧
  (¬ (sp - y) ≤ fw (20 * k + 12) → ou = (f_L_within_j1_1 ((fw (20 * k + 13)) + (fw (20 * k + 11))) (fw (20 * k + 5)) (fw (20 * k + 6)))) ∧
  (¬ (-(fw (20 * k + 12))) ≤ (sp - y) → ou = (f_L_within_j1_1 ((fw (20 * k + 13)) - (fw (20 * k + 11))) (fw (20 * k + 5)) (fw (20 * k + 6)))) ∧
  (yl_lmo u = (3 : Int32) → yl_rpr u = (1 : Int32)) ∧ (yl_lmo u = (3 : Int32) → ¬ (400 : Int32) ≤ ((fn (k + 3)) + (1 : Int32))) ∧
  (¬ yl_lmo u = (3 : Int32) → yl_lmo u = (1 : Int32)) ∧ (¬ yl_lmo u = (3 : Int32) → ¬ yl_rpr u = (2 : Int32) → yl_rpr u = (3 : Int32)) ∧ (¬ yl_lmo u = (3 : Int32) → ¬ yl_rpr u = (2 : Int32) → ((fn (k + 3)) + (1 : Int32)) = (400 : Int32)) ∧
  (¬ yl_lmo u = (3 : Int32) → yl_kig u = ((((1000 : Int64) * (fw (20 * k + 13))) - ((yl_kp u).toInt64 * (sp - y))) - ((yl_kd u).toInt64 * ((fw (20 * k + 10)) - y)))) ∧
  (¬ yl_lmo u = (3 : Int32) → yl_rpr u = (2 : Int32) → Told u (fw (20 * k + 11)).toInt32)
set_option maxHeartbeats 4000000 in
theorem ks_R1 {k : Nat} {s : LT} {fw fu fu2 fg : Nat → Int64} {fn : Nat → Int32} (h : RP k s fw fu fg fn) (h3 : yl_lmo s = 3) (hu : FU2 k fu fu2 (yl_lou (tR s (yl_ksp s)))) :
    RelayOk k (gOn (tR s (yl_ksp s))) fw fn (yl_lou (tR s (yl_ksp s))) (yl_pme s) (yl_ksp s) := by
  have ho : Ime (yl_lou (tR s (yl_ksp s))) := (Ime_b h.2.1.2.2).1
  obtain ⟨p1, p2, p3, p4, p5, p6, p7, p8, p9, p10, p11, p12, p13, p14, p15⟩ := h
  obtain ⟨r1, r2, r3, r4, r5, r6, r7, r8, r9, r10, r11, r12, r13⟩ := p6 h3
  have e0 : yl_lmo (gOn (tR s (yl_ksp s))) = if f_X3_sample_j3_1 1 (yl_rba s) (yl_rup s) (yl_rsa s) (yl_rri s) (yl_ksp s - yl_pme s) = (1 : Int32) then (3 : Int32) else (1 : Int32) := by
    rw [gO_lmo, tR_lmo, r5, h3]; rfl
  have e1 : yl_rpr (gOn (tR s (yl_ksp s))) = f_X3_sample_j3_1 1 (yl_rba s) (yl_rup s) (yl_rsa s) (yl_rri s) (yl_ksp s - yl_pme s) := by
    rw [gO_rpr, tR_rpr, r5]; rfl
  have e2 : yl_kig (gOn (tR s (yl_ksp s))) = if f_X3_sample_j3_1 1 (yl_rba s) (yl_rup s) (yl_rsa s) (yl_rri s) (yl_ksp s - yl_pme s) = (1 : Int32) then yl_kig s else f_X0_settle_kig (yl_kp s) (yl_kd s) (yl_ksp s) (yl_pme s) (yl_pmb s) (yl_rce s) := by
    rw [gO_kig, tR_kig, r5]; rfl
  have hl : yl_lou (tR s (yl_ksp s)) = f_L_within_j1_1 (f_X3_wanted_j1_1 (yl_rce s) (yl_rhe s) (f_X3_sample_j1_1 (yl_rba s) (yl_rup s) (yl_ksp s - yl_pme s))) (fw (20 * k + 5)) (fw (20 * k + 6)) := by
    rw [tR_lou, p2.1, p2.2.1, ← wl_eq p2.2.2]; rfl
  have hU := rl_up (e := yl_ksp s - yl_pme s) (rba := yl_rba s) r9
  have up1 : ¬ f_X3_sample_j1_1 (yl_rba s) (yl_rup s) (yl_ksp s - yl_pme s) = 0 → yl_lou (tR s (yl_ksp s)) = (f_L_within_j1_1 ((fw (20 * k + 13)) + (fw (20 * k + 11))) (fw (20 * k + 5)) (fw (20 * k + 6))) := by
    intro q
    rw [hl, r1, r3]; unfold f_X3_wanted_j1_1; rw [if_neg q]
  have up0 : f_X3_sample_j1_1 (yl_rba s) (yl_rup s) (yl_ksp s - yl_pme s) = 0 → yl_lou (tR s (yl_ksp s)) = (f_L_within_j1_1 ((fw (20 * k + 13)) - (fw (20 * k + 11))) (fw (20 * k + 5)) (fw (20 * k + 6))) := by
    intro q
    rw [hl, r1, r3]; unfold f_X3_wanted_j1_1; rw [if_pos q]
  refine ⟨?_, ?_, ?_, ?_, ?_, ?_, ?_, ?_, ?_, ?_⟩
  · intro q
    by_cases c : f_X3_sample_j1_1 (yl_rba s) (yl_rup s) (yl_ksp s - yl_pme s) = 0
    · exact up0 c
    · exact absurd (up1 c) q
  · intro q
    rw [r2] at q
    refine up1 ?_
    unfold f_X3_sample_j1_1
    rw [if_neg q]; decide
  · intro q
    rw [r2, ← neg64 r7.1] at q
    refine up0 ?_
    have q2 : (yl_ksp s - yl_pme s) ≤ (yl_rba s).toInt64 := by
      rw [neg64 r7.1, fa_le64, Int64.toInt_neg, Int32.toInt_toInt64, fb_bmodL (by omega) (by omega)] at q
      rw [fa_le64, Int32.toInt_toInt64]
      omega
    unfold f_X3_sample_j1_1
    rw [if_pos q2, if_neg q]
  · intro q
    rw [e0] at q
    rw [e1]
    by_cases c : f_X3_sample_j3_1 1 (yl_rba s) (yl_rup s) (yl_rsa s) (yl_rri s) (yl_ksp s - yl_pme s) = (1 : Int32)
    · exact c
    · rw [if_neg c] at q; exact absurd q (by decide)
  · intro q
    rw [e0] at q
    rcases rl_out (e := yl_ksp s - yl_pme s) (rsw := yl_rsw s) (rpe := yl_rpe s) (rba := yl_rba s) r10 r11 r12 r13 p7 with ⟨o1, o2, -⟩ | ⟨o1, -⟩ | ⟨o1, -⟩
    · rw [r4, fa_le]
      have z : (400 : Int32).toInt = 400 := rfl
      clear hl up1 up0 r12 r13
      omega
    · rw [o1, if_neg (by decide)] at q; exact absurd q (by decide)
    · rw [o1, if_neg (by decide)] at q; exact absurd q (by decide)
  · intro q
    rw [e0] at q ⊢
    by_cases c : f_X3_sample_j3_1 1 (yl_rba s) (yl_rup s) (yl_rsa s) (yl_rri s) (yl_ksp s - yl_pme s) = (1 : Int32)
    · rw [if_pos c] at q; exact absurd rfl q
    · rw [if_neg c]
  · intro q q2
    rw [e0] at q
    rw [e1] at q2 ⊢
    rcases rl_out (e := yl_ksp s - yl_pme s) (rsw := yl_rsw s) (rpe := yl_rpe s) (rba := yl_rba s) r10 r11 r12 r13 p7 with ⟨o1, -⟩ | ⟨o1, -⟩ | ⟨o1, -⟩
    · rw [o1, if_pos rfl] at q; exact absurd rfl q
    · exact absurd o1 q2
    · exact o1
  · intro q q2
    rw [e0] at q
    rw [e1] at q2
    rw [r4]
    rcases rl_out (e := yl_ksp s - yl_pme s) (rsw := yl_rsw s) (rpe := yl_rpe s) (rba := yl_rba s) r10 r11 r12 r13 p7 with ⟨o1, -⟩ | ⟨o1, -⟩ | ⟨o1, o2⟩
    · rw [o1, if_pos rfl] at q; exact absurd rfl q
    · exact absurd o1 q2
    · exact o2
  · intro q
    rw [e0] at q
    rw [e2, r3, p5.1]
    by_cases c : f_X3_sample_j3_1 1 (yl_rba s) (yl_rup s) (yl_rsa s) (yl_rri s) (yl_ksp s - yl_pme s) = (1 : Int32)
    · rw [if_pos c] at q; exact absurd rfl q
    · rw [if_neg c, gO_kp, tR_kp, gO_kd, tR_kd]; unfold f_X0_settle_kig f_X0_error_r f_X0_rate_r; rfl
  · intro q q2
    rw [e1] at q2
    rcases rl_out (e := yl_ksp s - yl_pme s) (rsw := yl_rsw s) (rpe := yl_rpe s) (rba := yl_rba s) r10 r11 r12 r13 p7 with ⟨o1, -⟩ | ⟨o1, o2, o3⟩ | ⟨o1, -⟩
    · rw [o1] at q2; exact absurd q2 (by decide)
    · refine ⟨e1.trans o1, o2, o3, ?_, ?_⟩
      · rw [r1, t3264]; rfl
      · rw [r1, t3264]; exact r6
    · rw [o1] at q2; exact absurd q2 (by decide)
set_option maxHeartbeats 4000000 in
theorem ks_R2 {k : Nat} {s : LT} {fw fw2 fu fu2 fg : Nat → Int64} {fn : Nat → Int32} (h : RP k s fw fu fg fn) (h3 : yl_lmo s = 3) (hu : FU2 k fu fu2 (yl_lou (tR s (yl_ksp s)))) (hw : FW2 k fw fw2 (yl_pme s) 0) :
    RP k (gOn (tR s (yl_ksp s))) fw2 fu2 fg (upd fn (k + 3) ((fn (k + 3)) + (1 : Int32))) := by
  have ho : Ime (yl_lou (tR s (yl_ksp s))) := (Ime_b h.2.1.2.2).1
  have g := ks_me (v := tR s (yl_ksp s)) (fwm := fw) h (fun i hi => rfl) hu ho (tR_pa1 _ _) (tR_pa2 _ _) (tR_pb _ _) (tR_pdt _ _) (tR_pld _ _) (tR_pme _ _) (tR_pmb _ _) (tR_plt _ _) (tR_po _ _)
  obtain ⟨p1, p2, p3, p4, p5, p6, p7, p8, p9, p10, p11, p12, p13, p14, p15⟩ := h
  obtain ⟨r1, r2, r3, r4, r5, r6, r7, r8, r9, r10, r11, r12, r13⟩ := p6 h3
  have hU := rl_up (e := yl_ksp s - yl_pme s) (rba := yl_rba s) r9
  refine RP_tR ?_
  have hgl := rl_gl (e := yl_ksp s - yl_pme s) (rba := yl_rba s) (rup := yl_rup s) p7 p5.2.1
  have hmo : f_X1_actAsRelay_j1_1 (yl_lmo s) (yl_ksp s) (yl_pme s) (yl_rpr s) (yl_rba s) (yl_rup s) (yl_rsa s) (yl_rri s) = if f_X3_sample_j3_1 1 (yl_rba s) (yl_rup s) (yl_rsa s) (yl_rri s) (yl_ksp s - yl_pme s) = (1 : Int32) then (3 : Int32) else (1 : Int32) := by rw [h3, r5]; rfl
  have hsc : RSc k fg (upd fn (k + 3) ((fn (k + 3)) + (1 : Int32))) (yl_sn s) (yl_gm s) (yl_gp s) (yl_gi s) (yl_gd s) := RSc_n p10 (u_ne _ _ (by omega))
  refine ⟨RPl_w p1 (fun i hi => hw.1 i (by omega) (by omega) (by omega) (by omega)), RLi_w p2 (fun i hi => hw.1 i (by omega) (by omega) (by omega) (by omega)), RHa_w p3 (fun i hi => hw.1 i (by omega) (by omega) (by omega) (by omega)), ?_, ⟨hw.2.1, g.2.1, p5.2.1⟩, ?_, hgl, ⟨_, g.2.2⟩, fu_b hu ho p9, hsc, p11, RBu_0 hw.2.2.2, RIn_0 hw.2.2.1, ⟨?_, p14.2.1, p14.2.2.1, ho⟩, Or.inl rfl⟩
  · obtain ⟨q1, q2, q3, q4, q5, q6⟩ := p4
    refine RTi_w (fw := fw) ⟨q1, q2, q3, q4, fun c => ?_, q6⟩ (fun i hi => hw.1 i (by omega) (by omega) (by omega) (by omega))
    rw [hmo] at c
    by_cases z : f_X3_sample_j3_1 1 (yl_rba s) (yl_rup s) (yl_rsa s) (yl_rri s) (yl_ksp s - yl_pme s) = (1 : Int32)
    · rw [if_pos z] at c; exact absurd c (by decide)
    · rw [if_neg z] at c; exact absurd c (by decide)
  · intro q
    rw [hmo] at q
    rcases rl_out (e := yl_ksp s - yl_pme s) (rsw := yl_rsw s) (rpe := yl_rpe s) (rba := yl_rba s) r10 r11 r12 r13 p7 with ⟨o1, o2, o3, o4, o5⟩ | ⟨o1, -⟩ | ⟨o1, -⟩
    · refine ⟨(hw.1 11 (by omega) (by omega) (by omega) (by omega)).trans r1, (hw.1 12 (by omega) (by omega) (by omega) (by omega)).trans r2, (hw.1 13 (by omega) (by omega) (by omega) (by omega)).trans r3, ?_, ?_, r6, r7, r8, hU, o2, o3, o4, o5⟩
      · rw [u_eq, r4]; rfl
      · rw [r5]; exact o1
    · rw [o1, if_neg (by decide)] at q; exact absurd q (by decide)
    · rw [o1, if_neg (by decide)] at q; exact absurd q (by decide)
  · rw [hmo]
    by_cases z : f_X3_sample_j3_1 1 (yl_rba s) (yl_rup s) (yl_rsa s) (yl_rri s) (yl_ksp s - yl_pme s) = (1 : Int32)
    · rw [if_pos z]; exact Or.inr (Or.inr (Or.inr rfl))
    · rw [if_neg z]; exact Or.inr (Or.inl rfl)
