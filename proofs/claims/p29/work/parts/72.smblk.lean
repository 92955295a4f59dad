section SB
variable {p : Program} {l : Launch} {e : Env} {R : Room} {s : State} {m : MethodId} {args : Array Value} {below : List Frame} {meth : Method} {c : Code} {H : Heap} {locs : List Loc} {cells slots k : Nat} {Q : State → Prop} {ls : Array Slot}
variable {dC : Nat → ClassId} {dI : Nat → Nat → Nat} {cI cJ cZ cO : ClassId} {adB adA adW adU adG adN : Nat} {lf : Nat → Option Nat} {bs : Int32} {a : Nat → AT} {T U : Nat → LT} {A : Nat → Prop} {fw fu fg : Nat → Int64} {fn : Nat → Int32}
set_option maxHeartbeats 4000000 in
theorem sm_blk (K : FX p s m c cL_samples 25 args (dC, dI) cI cJ cZ cO lf a) {t6 t7 t8 t9 t10 : Nat} {fm fh fs : Nat → Int32} {fy fp : Nat → Int64} {sa : Int32} {lou0 ksp2 : Int64} {lmo2 lma2 : Int32} (hk : k < 3) (hfm : ∀ j : Nat, j < 3 → fm j = yl_lmo (T j)) (hfh : ∀ j : Nat, j < 3 → fh j = yl_khe (T j)) (hfs : ∀ j : Nat, j < 3 → fs j = yl_rpr (T j)) (hfy : ∀ j : Nat, j < 3 → fy j = yl_pme (T j)) (hfp : ∀ j : Nat, j < 3 → fp j = yl_ksp (T j)) (hRP0 : RP k (T k) fw fu fg fn) (hU : U k = gOn (tn1 (T k) lou0 lmo2 lma2 ksp2)) (hlo0 : Ime lou0) (hlk : 1 ≤ k → lou0 = yl_lou (U (k - 1))) (h2 : k < 2 → lmo2 = yl_lmo (T (k + 1)) ∧ lma2 = yl_lma (T (k + 1)) ∧ ksp2 = yl_ksp (T (k + 1)) ∧ fw (20 * k + 29) = (yl_lma (T (k + 1))).toInt64 ∧ Ist (yl_lma (T (k + 1)))) (h2n : ¬ k < 2 → lma2 = 0) (hR : 6 ≤ R.frames ∧ 164 ≤ R.locals) (hcs : cells ≤ R.cells ∧ slots ≤ R.slots) (hP : va_P (dC, dI) vwCl ([zAI cI t6 3 fm, zAI cI t7 3 fh, zAI cI t8 3 fs, zAJ cJ t9 3 fy, zAJ cJ t10 3 fp, zAJ cJ adW 60 fw, zAJ cJ adU 33 fu, zAJ cJ adG 60 fg, zAI cI adN 6 fn] ++ wB cI cJ cO adB adA lf bs a U) H) (hD : va_D A ([zAI cI t6 3 fm, zAI cI t7 3 fh, zAI cI t8 3 fs, zAJ cJ t9 3 fy, zAJ cJ t10 3 fp, zAJ cJ adW 60 fw, zAJ cJ adU 33 fu, zAJ cJ adG 60 fg, zAI cI adN 6 fn] ++ wB cI cJ cO adB adA lf bs a U)) (hS : va_S A s.heap H locs) (hA : ∀ q : Nat, s.heap.size ≤ q → A q) (hl : lv_has ls 25 [(12, .int (nI k)), (11, .int (1 : Int32)), (0, .ref adB), (1, .ref adW), (2, .ref adU), (3, .ref adG), (4, .ref adN), (5, .int sa), (6, .ref t6), (7, .ref t7), (8, .ref t8), (9, .ref t9), (10, .ref t10)])
    (kk : ∀ (fw2 fu2 : Nat → Int64) (fn2 : Nat → Int32) (H : Heap) (locs : List Loc) (ls : Array Slot), RP k (U k) fw2 fu2 fg fn2 → fw2 (20 * k + 15) = 0 → (∀ i : Nat, i < 20 * k ∨ 20 * k + 20 ≤ i → fw2 i = fw i) → (∀ i : Nat, i < 11 * k ∨ 11 * k + 11 ≤ i → fu2 i = fu i) → (∀ j : Nat, ¬ j = k + 3 → fn2 j = fn j) → va_P (dC, dI) vwCl ([zAI cI t6 3 fm, zAI cI t7 3 fh, zAI cI t8 3 fs, zAJ cJ t9 3 fy, zAJ cJ t10 3 fp, zAJ cJ adW 60 fw2, zAJ cJ adU 33 fu2, zAJ cJ adG 60 fg, zAI cI adN 6 fn2] ++ wB cI cJ cO adB adA lf bs a U) H → va_D A ([zAI cI t6 3 fm, zAI cI t7 3 fh, zAI cI t8 3 fs, zAJ cJ t9 3 fy, zAJ cJ t10 3 fp, zAJ cJ adW 60 fw2, zAJ cJ adU 33 fu2, zAJ cJ adG 60 fg, zAI cI adN 6 fn2] ++ wB cI cJ cO adB adA lf bs a U) → va_S A s.heap H locs → lv_has ls 25 [(12, .int (nI (k + 1))), (11, .int (1 : Int32)), (0, .ref adB), (1, .ref adW), (2, .ref adU), (3, .ref adG), (4, .ref adN), (5, .int sa), (6, .ref t6), (7, .ref t7), (8, .ref t8), (9, .ref t9), (10, .ref t10)] → W p l e R s m args below meth c H locs cells slots Q (F0 m 117 ls [])) : W p l e R s m args below meth c H locs cells slots Q (F0 m 117 ls []) := by
  obtain ⟨p1, p2, p3, p4, p5, p6, p7, p8, p9, p10, p11, p12, p13, p14, p15⟩ := id hRP0
  rcases p14.1 with hm | hm | hm | hm
  · have hF := sv_no0 (y := lmo2) (z := lma2) (Or.inl hm)
    have hv := hU.trans (congrArg gOn (tn_H hF hm))
    rw [sp_n2 (by rw [hm]; decide)] at hv
    have ho : Ime (yl_lou (tH (T k) (yl_ksp (T k)))) := (Ime_b p2.2.2).1
    have hlo9 : ¬ yl_lou (U k) < fw (20 * k + 5) := by
      rw [((congrArg yl_lou hv).trans (gO_lou _)), p2.1]; exact nlt_of (Ime_b p2.2.2).2.1
    have hhi9 : ¬ fw (20 * k + 6) < yl_lou (U k) := by
      rw [((congrArg yl_lou hv).trans (gO_lou _)), p2.2.1]; exact nlt_of (Ime_b p2.2.2).2.2
    have hme := me_of hRP0 hv ho (tH_pa1 _ _) (tH_pa2 _ _) (tH_pb _ _) (tH_pdt _ _) (tH_pld _ _) (tH_pme _ _) (tH_pmb _ _) (tH_plt _ _) (tH_po _ _)
    refine sm_H K hk hfm hfh hfs hfy hfp hm hlo9 hhi9 ?_ hme ?_ ?_ ?_ ?_ ?_ ?_ ⟨Nat.le_trans (Nat.le_of_ble_eq_true rfl) hR.1, Nat.le_trans (Nat.le_of_ble_eq_true rfl) hR.2⟩ hcs hP hD hS hA hl kk
    · exact ((congrArg yl_lst hv).trans (gO_lst _)).trans (tH_lst _ _)
    · intro q
      rw [((congrArg yl_ksp hv).trans (gO_ksp _)), tH_ksp]; unfold f_X1_actByHand_j1_1; rw [(bool_1 p4.1 p4.2.2.1).1 q]; exact if_neg (by decide)
    · intro q
      rw [((congrArg yl_ksp hv).trans (gO_ksp _)), tH_ksp]; unfold f_X1_actByHand_j1_1; rw [(bool_1 p4.1 p4.2.2.1).2 q]; exact if_pos rfl
    · rw [((congrArg yl_lou hv).trans (gO_lou _)), tH_lou, wl_eq p2.2.2, p2.1, p2.2.1, p3.1]
    · exact ((congrArg yl_khe hv).trans (gO_khe _)).trans (tH_khe _ _)
    · exact ⟨((congrArg yl_lmo hv).trans (gO_lmo _)).trans (tH_lmo _ _), ((congrArg yl_rpr hv).trans (gO_rpr _)).trans (tH_rpr _ _)⟩
    · intro fw2 fu2 x1 x2
      rw [((congrArg yl_lou hv).trans (gO_lou _))] at x2
      rw [hv]; exact ks_H hRP0 hm p14.2.2.1 x2 x1
  · have hsp9 : Ime (f_X5_takeTurn_1_j1_1 (yl_lmo (T k)) lou0 (yl_ksp (T k))) := by
      rw [sp_n2 (by rw [hm]; decide)]; exact p14.2.2.1
    have h30 : ¬ yl_lmo (T k) = 3 := by rw [hm]; decide
    have h00 : ¬ yl_lmo (T k) = 0 := by rw [hm]; decide
    by_cases hs9 : k < 2 ∧ fw (20 * k + 29) = 1 ∧ ¬ yl_lmo (T (k + 1)) = 2
    · obtain ⟨s1, s2, s3⟩ := hs9
      obtain ⟨x1, x2, x3, x4, x5⟩ := h2 s1
      have z1 := (bool_1 x4 x5).1 s2
      have hF : ¬ f_X1_isStarvedBy_j2_1 (yl_lmo (T k)) lmo2 lma2 = 0 := sv_yes (Or.inl hm) (by rw [x2, z1]; decide) (by rw [x1]; exact s3)
      have hv := hU.trans (congrArg gOn (tn_S hF))
      have ho : Ime (yl_lou (tS (T k) (f_X5_takeTurn_1_j1_1 (yl_lmo (T k)) lou0 (yl_ksp (T k))) ksp2)) := (Ime_b p2.2.2).1
      have hlo9 : ¬ yl_lou (U k) < fw (20 * k + 5) := by
        rw [((congrArg yl_lou hv).trans (gO_lou _)), p2.1]; exact nlt_of (Ime_b p2.2.2).2.1
      have hhi9 : ¬ fw (20 * k + 6) < yl_lou (U k) := by
        rw [((congrArg yl_lou hv).trans (gO_lou _)), p2.2.1]; exact nlt_of (Ime_b p2.2.2).2.2
      have hme := me_of hRP0 hv ho (tS_pa1 _ _ _) (tS_pa2 _ _ _) (tS_pb _ _ _) (tS_pdt _ _ _) (tS_pld _ _ _) (tS_pme _ _ _) (tS_pmb _ _ _) (tS_plt _ _ _) (tS_po _ _ _)
      refine sm_S1 K hk hfm hfh hfs hfy hfp hm hlo9 hhi9 ?_ hme ?_ s1 s2 s3 ?_ ?_ ?_ ?_ ⟨Nat.le_trans (Nat.le_of_ble_eq_true rfl) hR.1, Nat.le_trans (Nat.le_of_ble_eq_true rfl) hR.2⟩ hcs hP hD hS hA hl kk
      · exact ((congrArg yl_lst hv).trans (gO_lst _)).trans (tS_lst _ _ _)
      · exact (((congrArg yl_ksp hv).trans (gO_ksp _)).trans (tS_ksp _ _ _)).trans ((sp_n2 (lou0 := lou0) (by rw [hm]; decide)))
      · rw [((congrArg yl_lou hv).trans (gO_lou _)), tS_lou, wl_eq p2.2.2, p2.1, p2.2.1, x3]
      · exact ((congrArg yl_khe hv).trans (gO_khe _)).trans (tS_khe _ _ _)
      · exact ⟨((congrArg yl_lmo hv).trans (gO_lmo _)).trans (tS_lmo _ _ _), ((congrArg yl_rpr hv).trans (gO_rpr _)).trans (tS_rpr _ _ _)⟩
      · intro fw2 fu2 y1 y2
        rw [((congrArg yl_lou hv).trans (gO_lou _))] at y2
        rw [hv]; exact ks_S hRP0 h30 hsp9 y2 y1
    · have hns9 : k < 2 → fw (20 * k + 29) = 1 → yl_lmo (T (k + 1)) = (2 : Int32) := fun a1 a2 => Decidable.byContradiction (fun a3 => hs9 ⟨a1, a2, a3⟩)
      have hF : f_X1_isStarvedBy_j2_1 (yl_lmo (T k)) lmo2 lma2 = 0 := by
        refine sv_no ?_
        by_cases a1 : k < 2
        · obtain ⟨x1, x2, x3, x4, x5⟩ := h2 a1
          by_cases a2 : fw (20 * k + 29) = 1
          · exact Or.inr (by rw [x1]; exact hns9 a1 a2)
          · exact Or.inl (by rw [x2]; exact (bool_1 x4 x5).2 a2)
        · exact Or.inl (h2n a1)
      have hv := hU.trans (congrArg gOn (tn_A hF h00 h30))
      have ho : Ime (yl_lou (tA (T k) (f_X5_takeTurn_1_j1_1 (yl_lmo (T k)) lou0 (yl_ksp (T k))))) := (Ime_b p2.2.2).1
      have hlo9 : ¬ yl_lou (U k) < fw (20 * k + 5) := by
        rw [((congrArg yl_lou hv).trans (gO_lou _)), p2.1]; exact nlt_of (Ime_b p2.2.2).2.1
      have hhi9 : ¬ fw (20 * k + 6) < yl_lou (U k) := by
        rw [((congrArg yl_lou hv).trans (gO_lou _)), p2.2.1]; exact nlt_of (Ime_b p2.2.2).2.2
      have hme := me_of hRP0 hv ho (tA_pa1 _ _) (tA_pa2 _ _) (tA_pb _ _) (tA_pdt _ _) (tA_pld _ _) (tA_pme _ _) (tA_pmb _ _) (tA_plt _ _) (tA_po _ _)
      have hG9 := aG hRP0
      obtain ⟨j, j1, j2, j3, j4, j5, j6⟩ := a_btw hRP0
      have h14 : fw (20 * k + 14) = 0 ∨ fw (20 * k + 14) = 1 := p13.imp id (fun q => q.1)
      have hkh9 : yl_khe (U k) = yl_khe (T k) ∨ yl_khe (U k) = yl_khe (T k) + 1 := by
        rw [((congrArg yl_khe hv).trans (gO_khe _)), a_khe]
        by_cases q : f_X0_withinLimits_r (yl_klo (T k)) (yl_khi (T k)) (aW (T k) (f_X5_takeTurn_1_j1_1 (yl_lmo (T k)) lou0 (yl_ksp (T k)))) = aW (T k) (f_X5_takeTurn_1_j1_1 (yl_lmo (T k)) lou0 (yl_ksp (T k)))
        · rw [if_pos q]; exact Or.inl rfl
        · rw [if_neg q]; exact Or.inr rfl
      have hsn : fn k = 0 → yl_sn (T k) = 0 := fun q => (sg_sn hRP0).trans q
      have hkU : yl_khe (U k) = yl_khe (T k) → yl_khe (tA (T k) (f_X5_takeTurn_1_j1_1 (yl_lmo (T k)) lou0 (yl_ksp (T k)))) = yl_khe (T k) := fun q => by rw [((congrArg yl_khe hv).trans (gO_khe _))] at q; exact q
      refine sm_A1 (j := j) K hk hfm hfh hfs hfy hfp hm hlo9 hhi9 ?_ hme ?_ hns9 (kh_1 hkh9) ?_ j1 j3 (by rw [((congrArg yl_kp hv).trans (gO_kp _)).trans (a_kp _ _)]; exact j4) (by rw [((congrArg yl_ki hv).trans (gO_ki _)).trans (a_ki _ _)]; exact j5) (by rw [((congrArg yl_kd hv).trans (gO_kd _)).trans (a_kd _ _)]; exact j6) h14 ?_ ?_ ?_ ⟨Nat.le_trans (Nat.le_of_ble_eq_true rfl) hR.1, Nat.le_trans (Nat.le_of_ble_eq_true rfl) hR.2⟩ hcs hP hD hS hA hl kk
      · exact ((congrArg yl_lst hv).trans (gO_lst _)).trans (tA_lst _ _)
      · exact (((congrArg yl_ksp hv).trans (gO_ksp _)).trans (tA_ksp _ _)).trans ((sp_n2 (lou0 := lou0) (by rw [hm]; decide)))
      · exact ⟨((congrArg yl_lmo hv).trans (gO_lmo _)).trans (tA_lmo _ _), ((congrArg yl_rpr hv).trans (gO_rpr _)).trans (tA_rpr _ _)⟩
      · intro q1 q2 q3
        have e := (a_inc hRP0 (hkU q1) (hsn q2) q3).2.2
        show f_X5_outputByIncrements_r (yl_ksu (U k)) = yl_lou (U k)
        rw [((congrArg yl_ksu hv).trans (gO_ksu _)), ((congrArg yl_lou hv).trans (gO_lou _))]; exact e
      · intro fw2 fu2 v14 y1 y2 y3
        rw [((congrArg yl_lou hv).trans (gO_lou _))] at y2
        have y4 := ks_A hRP0 h30 hG9 hsp9 y2 y1 (y3.imp id (fun q => ⟨q.1, hsn q.2.1, hkU q.2.2.1, q.2.2.2⟩))
        rw [hv]; exact y4
      · intro q
        have e := a_bump hRP0 hG9 q
        rw [sp_n2 (by rw [hm]; decide)] at hv
        rw [((congrArg yl_lou hv).trans (gO_lou _)), ((congrArg yl_ki hv).trans (gO_ki _)).trans (a_ki _ _), ((congrArg yl_ksp hv).trans (gO_ksp _)).trans (tA_ksp _ _)]; exact e
  · have hsp9 : Ime (f_X5_takeTurn_1_j1_1 (yl_lmo (T k)) lou0 (yl_ksp (T k))) := by
      rw [sp_2 hm]; exact hlo0
    have hk1 : 1 ≤ k := by
      rcases Nat.eq_zero_or_pos k with z | z
      · have z1 := p4.2.2.2.2.2 z
        rw [p4.2.2.2.2.1 hm] at z1
        exact absurd z1 (by decide)
      · exact z
    have h30 : ¬ yl_lmo (T k) = 3 := by rw [hm]; decide
    have h00 : ¬ yl_lmo (T k) = 0 := by rw [hm]; decide
    by_cases hs9 : k < 2 ∧ fw (20 * k + 29) = 1 ∧ ¬ yl_lmo (T (k + 1)) = 2
    · obtain ⟨s1, s2, s3⟩ := hs9
      obtain ⟨x1, x2, x3, x4, x5⟩ := h2 s1
      have z1 := (bool_1 x4 x5).1 s2
      have hF : ¬ f_X1_isStarvedBy_j2_1 (yl_lmo (T k)) lmo2 lma2 = 0 := sv_yes (Or.inr hm) (by rw [x2, z1]; decide) (by rw [x1]; exact s3)
      have hv := hU.trans (congrArg gOn (tn_S hF))
      have ho : Ime (yl_lou (tS (T k) (f_X5_takeTurn_1_j1_1 (yl_lmo (T k)) lou0 (yl_ksp (T k))) ksp2)) := (Ime_b p2.2.2).1
      have hlo9 : ¬ yl_lou (U k) < fw (20 * k + 5) := by
        rw [((congrArg yl_lou hv).trans (gO_lou _)), p2.1]; exact nlt_of (Ime_b p2.2.2).2.1
      have hhi9 : ¬ fw (20 * k + 6) < yl_lou (U k) := by
        rw [((congrArg yl_lou hv).trans (gO_lou _)), p2.2.1]; exact nlt_of (Ime_b p2.2.2).2.2
      have hme := me_of hRP0 hv ho (tS_pa1 _ _ _) (tS_pa2 _ _ _) (tS_pb _ _ _) (tS_pdt _ _ _) (tS_pld _ _ _) (tS_pme _ _ _) (tS_pmb _ _ _) (tS_plt _ _ _) (tS_po _ _ _)
      refine sm_S2 K hk hfm hfh hfs hfy hfp hm hlo9 hhi9 ?_ hme hk1 ?_ s1 s2 s3 ?_ ?_ ?_ ?_ ⟨Nat.le_trans (Nat.le_of_ble_eq_true rfl) hR.1, Nat.le_trans (Nat.le_of_ble_eq_true rfl) hR.2⟩ hcs hP hD hS hA hl kk
      · exact ((congrArg yl_lst hv).trans (gO_lst _)).trans (tS_lst _ _ _)
      · exact (((congrArg yl_ksp hv).trans (gO_ksp _)).trans (tS_ksp _ _ _)).trans ((sp_2 (lou0 := lou0) hm).trans (hlk hk1))
      · rw [((congrArg yl_lou hv).trans (gO_lou _)), tS_lou, wl_eq p2.2.2, p2.1, p2.2.1, x3]
      · exact ((congrArg yl_khe hv).trans (gO_khe _)).trans (tS_khe _ _ _)
      · exact ⟨((congrArg yl_lmo hv).trans (gO_lmo _)).trans (tS_lmo _ _ _), ((congrArg yl_rpr hv).trans (gO_rpr _)).trans (tS_rpr _ _ _)⟩
      · intro fw2 fu2 y1 y2
        rw [((congrArg yl_lou hv).trans (gO_lou _))] at y2
        rw [hv]; exact ks_S hRP0 h30 hsp9 y2 y1
    · have hns9 : k < 2 → fw (20 * k + 29) = 1 → yl_lmo (T (k + 1)) = (2 : Int32) := fun a1 a2 => Decidable.byContradiction (fun a3 => hs9 ⟨a1, a2, a3⟩)
      have hF : f_X1_isStarvedBy_j2_1 (yl_lmo (T k)) lmo2 lma2 = 0 := by
        refine sv_no ?_
        by_cases a1 : k < 2
        · obtain ⟨x1, x2, x3, x4, x5⟩ := h2 a1
          by_cases a2 : fw (20 * k + 29) = 1
          · exact Or.inr (by rw [x1]; exact hns9 a1 a2)
          · exact Or.inl (by rw [x2]; exact (bool_1 x4 x5).2 a2)
        · exact Or.inl (h2n a1)
      have hv := hU.trans (congrArg gOn (tn_A hF h00 h30))
      have ho : Ime (yl_lou (tA (T k) (f_X5_takeTurn_1_j1_1 (yl_lmo (T k)) lou0 (yl_ksp (T k))))) := (Ime_b p2.2.2).1
      have hlo9 : ¬ yl_lou (U k) < fw (20 * k + 5) := by
        rw [((congrArg yl_lou hv).trans (gO_lou _)), p2.1]; exact nlt_of (Ime_b p2.2.2).2.1
      have hhi9 : ¬ fw (20 * k + 6) < yl_lou (U k) := by
        rw [((congrArg yl_lou hv).trans (gO_lou _)), p2.2.1]; exact nlt_of (Ime_b p2.2.2).2.2
      have hme := me_of hRP0 hv ho (tA_pa1 _ _) (tA_pa2 _ _) (tA_pb _ _) (tA_pdt _ _) (tA_pld _ _) (tA_pme _ _) (tA_pmb _ _) (tA_plt _ _) (tA_po _ _)
      have hG9 := aG hRP0
      obtain ⟨j, j1, j2, j3, j4, j5, j6⟩ := a_btw hRP0
      have h14 : fw (20 * k + 14) = 0 ∨ fw (20 * k + 14) = 1 := p13.imp id (fun q => q.1)
      have hkh9 : yl_khe (U k) = yl_khe (T k) ∨ yl_khe (U k) = yl_khe (T k) + 1 := by
        rw [((congrArg yl_khe hv).trans (gO_khe _)), a_khe]
        by_cases q : f_X0_withinLimits_r (yl_klo (T k)) (yl_khi (T k)) (aW (T k) (f_X5_takeTurn_1_j1_1 (yl_lmo (T k)) lou0 (yl_ksp (T k)))) = aW (T k) (f_X5_takeTurn_1_j1_1 (yl_lmo (T k)) lou0 (yl_ksp (T k)))
        · rw [if_pos q]; exact Or.inl rfl
        · rw [if_neg q]; exact Or.inr rfl
      have hsn : fn k = 0 → yl_sn (T k) = 0 := fun q => (sg_sn hRP0).trans q
      have hkU : yl_khe (U k) = yl_khe (T k) → yl_khe (tA (T k) (f_X5_takeTurn_1_j1_1 (yl_lmo (T k)) lou0 (yl_ksp (T k)))) = yl_khe (T k) := fun q => by rw [((congrArg yl_khe hv).trans (gO_khe _))] at q; exact q
      refine sm_A2 (j := j) K hk hfm hfh hfs hfy hfp hm hlo9 hhi9 ?_ hme hk1 ?_ hns9 (kh_1 hkh9) ?_ j1 j3 (by rw [((congrArg yl_kp hv).trans (gO_kp _)).trans (a_kp _ _)]; exact j4) (by rw [((congrArg yl_ki hv).trans (gO_ki _)).trans (a_ki _ _)]; exact j5) (by rw [((congrArg yl_kd hv).trans (gO_kd _)).trans (a_kd _ _)]; exact j6) h14 ?_ ?_ ⟨Nat.le_trans (Nat.le_of_ble_eq_true rfl) hR.1, Nat.le_trans (Nat.le_of_ble_eq_true rfl) hR.2⟩ hcs hP hD hS hA hl kk
      · exact ((congrArg yl_lst hv).trans (gO_lst _)).trans (tA_lst _ _)
      · exact (((congrArg yl_ksp hv).trans (gO_ksp _)).trans (tA_ksp _ _)).trans ((sp_2 (lou0 := lou0) hm).trans (hlk hk1))
      · exact ⟨((congrArg yl_lmo hv).trans (gO_lmo _)).trans (tA_lmo _ _), ((congrArg yl_rpr hv).trans (gO_rpr _)).trans (tA_rpr _ _)⟩
      · intro q1 q2 q3
        have e := (a_inc hRP0 (hkU q1) (hsn q2) q3).2.2
        show f_X5_outputByIncrements_r (yl_ksu (U k)) = yl_lou (U k)
        rw [((congrArg yl_ksu hv).trans (gO_ksu _)), ((congrArg yl_lou hv).trans (gO_lou _))]; exact e
      · intro fw2 fu2 v14 y1 y2 y3
        rw [((congrArg yl_lou hv).trans (gO_lou _))] at y2
        have y4 := ks_A hRP0 h30 hG9 hsp9 y2 y1 (y3.imp id (fun q => ⟨q.1, hsn q.2.1, hkU q.2.2.1, q.2.2.2⟩))
        rw [hv]; exact y4
  · have hF := sv_no0 (y := lmo2) (z := lma2) (Or.inr hm)
    have h00 : ¬ yl_lmo (T k) = 0 := by rw [hm]; decide
    have hv := hU.trans (congrArg gOn (tn_R hF h00 hm))
    rw [sp_n2 (by rw [hm]; decide)] at hv
    have ho : Ime (yl_lou (tR (T k) (yl_ksp (T k)))) := (Ime_b p2.2.2).1
    have hlo9 : ¬ yl_lou (U k) < fw (20 * k + 5) := by
      rw [((congrArg yl_lou hv).trans (gO_lou _)), p2.1]; exact nlt_of (Ime_b p2.2.2).2.1
    have hhi9 : ¬ fw (20 * k + 6) < yl_lou (U k) := by
      rw [((congrArg yl_lou hv).trans (gO_lou _)), p2.2.1]; exact nlt_of (Ime_b p2.2.2).2.2
    have hme := me_of hRP0 hv ho (tR_pa1 _ _) (tR_pa2 _ _) (tR_pb _ _) (tR_pdt _ _) (tR_pld _ _) (tR_pme _ _) (tR_pmb _ _) (tR_plt _ _) (tR_po _ _)
    refine sm_R K hk hfm hfh hfs hfy hfp hm hlo9 hhi9 ?_ hme ?_ ?_ ?_ ?_ ⟨Nat.le_trans (Nat.le_of_ble_eq_true rfl) hR.1, Nat.le_trans (Nat.le_of_ble_eq_true rfl) hR.2⟩ hcs hP hD hS hA hl kk
    · exact ((congrArg yl_lst hv).trans (gO_lst _)).trans (tR_lst _ _)
    · exact ((congrArg yl_ksp hv).trans (gO_ksp _)).trans (tR_ksp _ _)
    · exact ((congrArg yl_khe hv).trans (gO_khe _)).trans (tR_khe _ _)
    · have e9 := ks_R1 (fu2 := upF k fu (yl_lou (tR (T k) (yl_ksp (T k))))) hRP0 hm (upF_ok _ _ _)
      rw [((congrArg yl_lou hv).trans (gO_lou _)), hv]; exact e9
    · intro fw2 fu2 x1 x2
      rw [((congrArg yl_lou hv).trans (gO_lou _))] at x2
      rw [hv]; exact ks_R2 hRP0 hm x2 x1
end SB
