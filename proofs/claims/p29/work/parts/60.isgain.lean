theorem ig_inv {G : Nat → Int64} {i : Nat} {lo hi lo2 hi2 : Int64} (h : ∀ t : Nat, t < i → lo ≤ G t ∧ G t ≤ hi) (h1 : lo2 ≤ lo) (h2 : lo2 ≤ G i) (h3 : hi ≤ hi2) (h4 : G i ≤ hi2) : ∀ t : Nat, t < i + 1 → lo2 ≤ G t ∧ G t ≤ hi2 := by
  intro t ht
  rw [fa_le64] at *
  rcases Nat.lt_or_ge t i with c | c
  · have q := h t c
    rw [fa_le64, fa_le64] at q
    rw [fa_le64]
    omega
  · rw [show t = i by omega, fa_le64]
    omega
theorem ig_fin {G : Nat → Int64} {j : Nat} {lo hi gv : Int64} (h : ∀ t : Nat, t < j → lo ≤ G t ∧ G t ≤ hi) (hI : j = 0 ∨ ∃ t1 t2 : Nat, t1 < j ∧ t2 < j ∧ G t1 ≤ gv ∧ gv ≤ G t2) (hj : ¬ nI j = 0) : ¬ gv < lo ∧ ¬ hi < gv := by
  rcases hI with c | ⟨t1, t2, a, b, c, d⟩
  · exact absurd (by rw [c]; rfl) hj
  · have q1 := h t1 a
    have q2 := h t2 b
    rw [fa_le64, fa_le64] at q1 q2
    rw [fa_le64] at c d
    rw [fa_lt64, fa_lt64]
    omega
set_option maxHeartbeats 4000000 in
set_option maxRecDepth 100000 in
theorem c_L_isGain (l : Launch) (dC : Nat → ClassId) (dI : Nat → Nat → Nat) (cI cJ cZ cO : ClassId) (adB adA adW adU adG adN : Nat) (lf : Nat → Option Nat) (a : Nat → AT) (bs : Int32) (T : Nat → LT) (fw fu fg : Nat → Int64) (fn : Nat → Int32) (k j wh : Nat) (gv : Int64) (sz : Nat) (hlf : ∀ j : Nat, j < 3 → lf (nI j).toNatClampNeg = some (ya_adL (a j))) (hk : k < 3) (hj : j ≤ 5) (hw : wh < 3) (hI : j = 0 ∨ ∃ t1 t2 : Nat, t1 < j ∧ t2 < j ∧ fg (4 * t1 + 20 * k + wh + 1) ≤ gv ∧ gv ≤ fg (4 * t2 + 20 * k + wh + 1)) : Met l yL_isGain (Cond.code yL_isGain cL_isGain 13 (some .boolean) :: wAll) ({ frames := 0, cells := 0, slots := 0, locals := 0 }) (va_Pc [.long gv, .ref adG, .int (nI k), .int (nI wh), .int (nI j)] (gP (dC, dI) ([zAJ cJ adW 60 fw, zAJ cJ adU 33 fu, zAJ cJ adG 60 fg, zAI cI adN 6 fn] ++ wB cI cJ cO adB adA lf bs a T) (tyG cI cJ cZ cO) sz gN)) (va_Qi (fun r (u : Unit) => r = 1) (fun u t => gB (dC, dI) (va_A ([zAJ cJ adW 60 fw, zAJ cJ adU 33 fu, zAJ cJ adG 60 fg, zAI cI adN 6 fn] ++ wB cI cJ cO adB adA lf bs a T) sz) ([zAJ cJ adW 60 fw, zAJ cJ adU 33 fu, zAJ cJ adG 60 fg, zAI cI adN 6 fn] ++ wB cI cJ cO adB adA lf bs a T) (tyG cI cJ cZ cO) t) (va_A ([zAJ cJ adW 60 fw, zAJ cJ adU 33 fu, zAJ cJ adG 60 fg, zAI cI adN 6 fn] ++ wB cI cJ cO adB adA lf bs a T) sz)) 0 0 (va_A ([zAJ cJ adW 60 fw, zAJ cJ adU 33 fu, zAJ cJ adG 60 fg, zAI cI adN 6 fn] ++ wB cI cJ cO adB adA lf bs a T) sz) := by
  refine Met.ofW (cc := cL_isGain) (maxL := 13) (ret := (some .boolean)) (by decide) rfl ?_
  intro p e s m args below meth c s₁ B hml hv
  obtain ⟨rfl, hsz, hP, hK, hD0, hG⟩ := hv
  have hx := B.exec
  have hb := B.bytes
  have hr := B.returns
  have hts := ht_of B.pre
  have hown : s.vm.findClass RL = some m.cls := findClass_of_methodNamed B.named
  have hlocks := B.notSynchronized
  subst hsz
  have hD := hD0.self (sz := s.heap.size)
  generalize hAe : va_A ([zAJ cJ adW 60 fw, zAJ cJ adU 33 fu, zAJ cJ adG 60 fg, zAI cI adN 6 fn] ++ wB cI cJ cO adB adA lf bs a T) s.heap.size = A at hD ⊢
  have hA : ∀ q : Nat, s.heap.size ≤ q → A q := fun q h => by rw [← hAe]; exact Or.inr h
  have hS : va_S A s.heap s.heap [] := va_S.rf
  have hl := lv_entry ([.long gv, .ref adG, .int (nI k), .int (nI wh), .int (nI j)]) (n := 13) (Nat.le_of_ble_eq_true rfl)
  rw [lg_entry_eq]
  generalize (lg_sl ([.long gv, .ref adG, .int (nI k), .int (nI wh), .int (nI j)]) ++ List.replicate (13 - (lg_sl ([.long gv, .ref adG, .int (nI k), .int (nI wh), .int (nI j)])).length) Slot.unset).toArray = ls at hl ⊢
  have hl : lv_has ls 13 [(0, .long gv), (2, .ref adG), (3, .int (nI k)), (4, .int (nI wh)), (5, .int (nI j))] := hl
  refine hh_name (fun Q hQ => ?_)
  have K := fx_mk hx hb hml hown hts hG hK hlf
  have hcs : (0 : Nat) ≤ 0 ∧ (0 : Nat) ≤ 0 := ⟨Nat.zero_le _, Nat.zero_le _⟩
  have LOOP : ∀ (q i : Nat), i + q = j → ∀ (lo hi : Int64), (∀ t : Nat, t < i → lo ≤ (fun t : Nat => fg (4 * t + 20 * k + wh + 1)) t ∧ (fun t : Nat => fg (4 * t + 20 * k + wh + 1)) t ≤ hi) → ∀ (H : Heap) (locs : List Loc) (ls : Array Slot), va_P (dC, dI) vwCl ([zAJ cJ adW 60 fw, zAJ cJ adU 33 fu, zAJ cJ adG 60 fg, zAI cI adN 6 fn] ++ wB cI cJ cO adB adA lf bs a T) H → va_D A ([zAJ cJ adW 60 fw, zAJ cJ adU 33 fu, zAJ cJ adG 60 fg, zAI cI adN 6 fn] ++ wB cI cJ cO adB adA lf bs a T) → va_S A s.heap H locs → lv_has ls 13 [(10, .int (nI i)), (8, .long hi), (6, .long lo), (0, .long gv), (2, .ref adG), (3, .int (nI k)), (4, .int (nI wh)), (5, .int (nI j))] → W p l e (headSpec (Cond.code yL_isGain cL_isGain 13 (some .boolean) :: wAll) ({ frames := 0, cells := 0, slots := 0, locals := 0 })).room s m ([.long gv, .ref adG, .int (nI k), .int (nI wh), .int (nI j)] : List Value).toArray below meth c H locs 0 0 Q (F0 m 13 ls []) := by
    intro q
    induction q with
    | zero =>
      intro i hi0 lo hi hinv H locs ls hP hD hS hl
      obtain rfl : i = j := by omega
      refine lv_iload hx hb dL_isGain_13 (lv_at hl 0 rfl) ?_
      refine lv_iload hx hb dL_isGain_15 (lv_at hl 7 rfl) ?_
      refine lv_icmp_ge (tgt := 78) hx hb dL_isGain_17 (by decide) (fun _ => ?_) (fun h9 => absurd ((nI_leI (a := i) (b := i) (by omega) (by omega)).mpr (by omega)) h9)
      refine lv_iload hx hb dL_isGain_78 (lv_at hl 7 rfl) ?_
      refine lv_if_eq (tgt := 97) hx hb dL_isGain_80 (by decide) (fun h80 => ?_) (fun h80 => ?_)
      · skip
        refine lv_iconst (v := 1) hx hb dL_isGain_97 (by decide) ?_
        refine lv_goto (tgt := 102) hx hb dL_isGain_98 (by decide) ?_
        exact hh_retS (w := fun (u : Unit) => ([zAJ cJ adW 60 fw, zAJ cJ adU 33 fu, zAJ cJ adG 60 fg, zAI cI adN 6 fn] ++ wB cI cJ cO adB adA lf bs a T)) () hQ (rfl) (rfl) hx hb hr hlocks hP hK hD hS dL_isGain_102
      · skip
        refine lv_lload_n hx hb dL_isGain_83 rfl (lv_at hl 3 rfl) ?_
        refine lv_lload hx hb dL_isGain_84 (lv_at hl 2 rfl) ?_
        refine hh_clt (tgt := 101) hx hb dL_isGain_86 dL_isGain_87 (by decide) (fun h9 => absurd h9 ((ig_fin hinv hI h80).1)) (fun _ => ?_)
        refine lv_lload_n hx hb dL_isGain_90 rfl (lv_at hl 3 rfl) ?_
        refine lv_lload hx hb dL_isGain_91 (lv_at hl 1 rfl) ?_
        refine hh_cgt (tgt := 101) hx hb dL_isGain_93 dL_isGain_94 (by decide) (fun h9 => absurd h9 ((ig_fin hinv hI h80).2)) (fun _ => ?_)
        refine lv_iconst (v := 1) hx hb dL_isGain_97 (by decide) ?_
        refine lv_goto (tgt := 102) hx hb dL_isGain_98 (by decide) ?_
        exact hh_retS (w := fun (u : Unit) => ([zAJ cJ adW 60 fw, zAJ cJ adU 33 fu, zAJ cJ adG 60 fg, zAI cI adN 6 fn] ++ wB cI cJ cO adB adA lf bs a T)) () hQ (rfl) (rfl) hx hb hr hlocks hP hK hD hS dL_isGain_102
    | succ q ih =>
      intro i hi0 lo hi hinv H locs ls hP hD hS hl
      refine lv_iload hx hb dL_isGain_13 (lv_at hl 0 rfl) ?_
      refine lv_iload hx hb dL_isGain_15 (lv_at hl 7 rfl) ?_
      refine lv_icmp_ge (tgt := 78) hx hb dL_isGain_17 (by decide) (fun h9 => absurd h9 (fun q => absurd ((nI_leI (a := j) (b := i) (by omega) (by omega)).mp q) (by omega))) (fun _ => ?_)
      refine lv_aload_n hx hb dL_isGain_20 rfl (lv_at hl 4 rfl) ?_
      refine lv_bipush (v := 20) hx hb dL_isGain_21 (by decide) ?_
      refine lv_iload_n hx hb dL_isGain_23 rfl (lv_at hl 5 rfl) ?_
      refine lv_imul hx hb dL_isGain_24 ?_
      refine hh_seti (y := (nI (20 * k))) (lwMul (a := 20) (b := k) (by omega)) ?_
      refine lv_iconst (v := 4) hx hb dL_isGain_25 (by decide) ?_
      refine lv_iload hx hb dL_isGain_26 (lv_at hl 0 rfl) ?_
      refine lv_imul hx hb dL_isGain_28 ?_
      refine hh_seti (y := (nI (4 * i))) (lwMul (a := 4) (b := i) (by omega)) ?_
      refine lv_iadd hx hb dL_isGain_29 ?_
      refine hh_seti (y := (nI (4 * i + 20 * k))) (lwAdd (a := 20 * k) (b := 4 * i) (by omega)) ?_
      refine lv_iconst (v := 1) hx hb dL_isGain_30 (by decide) ?_
      refine lv_iadd hx hb dL_isGain_31 ?_
      refine hh_seti (y := (nI (4 * i + 20 * k + 1))) (lwAdd (a := 4 * i + 20 * k) (b := 1) (by omega)) ?_
      refine lv_iload hx hb dL_isGain_32 (lv_at hl 6 rfl) ?_
      refine lv_iadd hx hb dL_isGain_34 ?_
      refine hh_seti (y := (nI (4 * i + 20 * k + wh + 1))) (lwAdd (a := 4 * i + 20 * k + 1) (b := wh) (by omega)) ?_
      refine lr_ll hx hb hK hP 2 1 (e0 := 4 * i + 20 * k + wh + 1) rfl rfl (by omega) (by decide) dL_isGain_35 ?_
      refine lv_lstore (lv' := [(11, .long (fg (4 * i + 20 * k + wh + 1))), (10, .int (nI i)), (8, .long hi), (6, .long lo), (0, .long gv), (2, .ref adG), (3, .int (nI k)), (4, .int (nI wh)), (5, .int (nI j))]) hx hb dL_isGain_36 hl (by decide) rfl (fun ls hl => ?_)
      refine lv_lload hx hb dL_isGain_38 (lv_at hl 0 rfl) ?_
      refine lv_lload hx hb dL_isGain_40 (lv_at hl 3 rfl) ?_
      refine hh_cge (tgt := 51) hx hb dL_isGain_42 dL_isGain_43 (by decide) (fun h43 => ?_) (fun h43 => ?_)
      · skip
        refine lv_lload hx hb dL_isGain_51 (lv_at hl 3 rfl) ?_
        refine lv_lstore (lv' := [(6, .long lo), (11, .long (fg (4 * i + 20 * k + wh + 1))), (10, .int (nI i)), (8, .long hi), (0, .long gv), (2, .ref adG), (3, .int (nI k)), (4, .int (nI wh)), (5, .int (nI j))]) hx hb dL_isGain_53 hl (by decide) rfl (fun ls hl => ?_)
        refine lv_lload hx hb dL_isGain_55 (lv_at hl 1 rfl) ?_
        refine lv_lload hx hb dL_isGain_57 (lv_at hl 3 rfl) ?_
        refine hh_cle (tgt := 68) hx hb dL_isGain_59 dL_isGain_60 (by decide) (fun h60 => ?_) (fun h60 => ?_)
        · skip
          refine lv_lload hx hb dL_isGain_68 (lv_at hl 3 rfl) ?_
          refine lv_lstore (lv' := [(8, .long hi), (6, .long lo), (11, .long (fg (4 * i + 20 * k + wh + 1))), (10, .int (nI i)), (0, .long gv), (2, .ref adG), (3, .int (nI k)), (4, .int (nI wh)), (5, .int (nI j))]) hx hb dL_isGain_70 hl (by decide) rfl (fun ls hl => ?_)
          refine lv_iinc (v := (nI (i + 1))) (lv' := [(10, .int (nI (i + 1))), (8, .long hi), (6, .long lo), (11, .long (fg (4 * i + 20 * k + wh + 1))), (0, .long gv), (2, .ref adG), (3, .int (nI k)), (4, .int (nI wh)), (5, .int (nI j))]) hx hb dL_isGain_72 hl (k := 3) rfl (nI_add (i) 1) (by decide) rfl (fun ls hl => ?_)
          refine lv_goto (tgt := 13) hx hb dL_isGain_75 (by decide) ?_
          exact ih (i + 1) (by omega) _ _ (ig_inv (G := fun t : Nat => fg (4 * t + 20 * k + wh + 1)) hinv (by rw [fa_le64]; exact Int.le_refl _) h43 (by rw [fa_le64]; exact Int.le_refl _) h60) H locs ls hP hD hS (lv_sub hl [0, 1, 2, 4, 5, 6, 7, 8] rfl)
        · skip
          refine lv_lload hx hb dL_isGain_63 (lv_at hl 1 rfl) ?_
          refine lv_goto (tgt := 70) hx hb dL_isGain_65 (by decide) ?_
          refine lv_lstore (lv' := [(8, .long (fg (4 * i + 20 * k + wh + 1))), (6, .long lo), (11, .long (fg (4 * i + 20 * k + wh + 1))), (10, .int (nI i)), (0, .long gv), (2, .ref adG), (3, .int (nI k)), (4, .int (nI wh)), (5, .int (nI j))]) hx hb dL_isGain_70 hl (by decide) rfl (fun ls hl => ?_)
          refine lv_iinc (v := (nI (i + 1))) (lv' := [(10, .int (nI (i + 1))), (8, .long (fg (4 * i + 20 * k + wh + 1))), (6, .long lo), (11, .long (fg (4 * i + 20 * k + wh + 1))), (0, .long gv), (2, .ref adG), (3, .int (nI k)), (4, .int (nI wh)), (5, .int (nI j))]) hx hb dL_isGain_72 hl (k := 3) rfl (nI_add (i) 1) (by decide) rfl (fun ls hl => ?_)
          refine lv_goto (tgt := 13) hx hb dL_isGain_75 (by decide) ?_
          exact ih (i + 1) (by omega) _ _ (ig_inv (G := fun t : Nat => fg (4 * t + 20 * k + wh + 1)) hinv (by rw [fa_le64]; exact Int.le_refl _) h43 (by rw [fa_le64]; rw [fa_le64] at h60; omega) (by rw [fa_le64]; exact Int.le_refl _)) H locs ls hP hD hS (lv_sub hl [0, 1, 2, 4, 5, 6, 7, 8] rfl)
      · skip
        refine lv_lload hx hb dL_isGain_46 (lv_at hl 0 rfl) ?_
        refine lv_goto (tgt := 53) hx hb dL_isGain_48 (by decide) ?_
        refine lv_lstore (lv' := [(6, .long (fg (4 * i + 20 * k + wh + 1))), (11, .long (fg (4 * i + 20 * k + wh + 1))), (10, .int (nI i)), (8, .long hi), (0, .long gv), (2, .ref adG), (3, .int (nI k)), (4, .int (nI wh)), (5, .int (nI j))]) hx hb dL_isGain_53 hl (by decide) rfl (fun ls hl => ?_)
        refine lv_lload hx hb dL_isGain_55 (lv_at hl 1 rfl) ?_
        refine lv_lload hx hb dL_isGain_57 (lv_at hl 3 rfl) ?_
        refine hh_cle (tgt := 68) hx hb dL_isGain_59 dL_isGain_60 (by decide) (fun h60 => ?_) (fun h60 => ?_)
        · skip
          refine lv_lload hx hb dL_isGain_68 (lv_at hl 3 rfl) ?_
          refine lv_lstore (lv' := [(8, .long hi), (6, .long (fg (4 * i + 20 * k + wh + 1))), (11, .long (fg (4 * i + 20 * k + wh + 1))), (10, .int (nI i)), (0, .long gv), (2, .ref adG), (3, .int (nI k)), (4, .int (nI wh)), (5, .int (nI j))]) hx hb dL_isGain_70 hl (by decide) rfl (fun ls hl => ?_)
          refine lv_iinc (v := (nI (i + 1))) (lv' := [(10, .int (nI (i + 1))), (8, .long hi), (6, .long (fg (4 * i + 20 * k + wh + 1))), (11, .long (fg (4 * i + 20 * k + wh + 1))), (0, .long gv), (2, .ref adG), (3, .int (nI k)), (4, .int (nI wh)), (5, .int (nI j))]) hx hb dL_isGain_72 hl (k := 3) rfl (nI_add (i) 1) (by decide) rfl (fun ls hl => ?_)
          refine lv_goto (tgt := 13) hx hb dL_isGain_75 (by decide) ?_
          exact ih (i + 1) (by omega) _ _ (ig_inv (G := fun t : Nat => fg (4 * t + 20 * k + wh + 1)) hinv (by rw [fa_le64]; rw [fa_le64] at h43; omega) (by rw [fa_le64]; exact Int.le_refl _) (by rw [fa_le64]; exact Int.le_refl _) h60) H locs ls hP hD hS (lv_sub hl [0, 1, 2, 4, 5, 6, 7, 8] rfl)
        · skip
          refine lv_lload hx hb dL_isGain_63 (lv_at hl 1 rfl) ?_
          refine lv_goto (tgt := 70) hx hb dL_isGain_65 (by decide) ?_
          refine lv_lstore (lv' := [(8, .long (fg (4 * i + 20 * k + wh + 1))), (6, .long (fg (4 * i + 20 * k + wh + 1))), (11, .long (fg (4 * i + 20 * k + wh + 1))), (10, .int (nI i)), (0, .long gv), (2, .ref adG), (3, .int (nI k)), (4, .int (nI wh)), (5, .int (nI j))]) hx hb dL_isGain_70 hl (by decide) rfl (fun ls hl => ?_)
          refine lv_iinc (v := (nI (i + 1))) (lv' := [(10, .int (nI (i + 1))), (8, .long (fg (4 * i + 20 * k + wh + 1))), (6, .long (fg (4 * i + 20 * k + wh + 1))), (11, .long (fg (4 * i + 20 * k + wh + 1))), (0, .long gv), (2, .ref adG), (3, .int (nI k)), (4, .int (nI wh)), (5, .int (nI j))]) hx hb dL_isGain_72 hl (k := 3) rfl (nI_add (i) 1) (by decide) rfl (fun ls hl => ?_)
          refine lv_goto (tgt := 13) hx hb dL_isGain_75 (by decide) ?_
          exact ih (i + 1) (by omega) _ _ (ig_inv (G := fun t : Nat => fg (4 * t + 20 * k + wh + 1)) hinv (by rw [fa_le64]; rw [fa_le64] at h43; omega) (by rw [fa_le64]; exact Int.le_refl _) (by rw [fa_le64]; rw [fa_le64] at h60; omega) (by rw [fa_le64]; exact Int.le_refl _)) H locs ls hP hD hS (lv_sub hl [0, 1, 2, 4, 5, 6, 7, 8] rfl)
  refine lv_ldc2 (v := 100000) hx hb hown (hts _ wd_2_23) dL_isGain_0 ?_
  refine lv_lstore (lv' := [(6, .long (100000 : Int64)), (0, .long gv), (2, .ref adG), (3, .int (nI k)), (4, .int (nI wh)), (5, .int (nI j))]) hx hb dL_isGain_3 hl (by decide) rfl (fun ls hl => ?_)
  refine lv_ldc2 (v := -100000) hx hb hown (hts _ wd_4_15) dL_isGain_5 ?_
  refine lv_lstore (lv' := [(8, .long (-100000 : Int64)), (6, .long (100000 : Int64)), (0, .long gv), (2, .ref adG), (3, .int (nI k)), (4, .int (nI wh)), (5, .int (nI j))]) hx hb dL_isGain_8 hl (by decide) rfl (fun ls hl => ?_)
  refine lv_iconst (v := 0) hx hb dL_isGain_10 (by decide) ?_
  refine lv_istore (lv' := [(10, .int (0 : Int32)), (8, .long (-100000 : Int64)), (6, .long (100000 : Int64)), (0, .long gv), (2, .ref adG), (3, .int (nI k)), (4, .int (nI wh)), (5, .int (nI j))]) hx hb dL_isGain_11 hl (by decide) rfl (fun ls hl => ?_)
  exact LOOP j 0 (by omega) _ _ (fun t ht => absurd ht (by omega)) _ _ ls hP hD hS (lv_sub hl [0, 1, 2, 3, 4, 5, 6, 7] rfl)
