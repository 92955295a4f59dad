section ST
variable {p : Program} {l : Launch} {e : Env} {R : Room} {s : State} {m : MethodId} {args : Array Value} {below : List Frame} {meth : Method} {c : Code} {H : Heap} {locs : List Loc} {cells slots k : Nat} {Q : State → Prop} {ls : Array Slot}
variable {dC : Nat → ClassId} {dI : Nat → Nat → Nat} {cI cJ cZ cO : ClassId} {adB adA adW adU adG adN : Nat} {lf : Nat → Option Nat} {bs : Int32} {a : Nat → AT} {T U : Nat → LT} {A : Nat → Prop} {fw fu fg : Nat → Int64} {fn : Nat → Int32}
set_option maxHeartbeats 4000000 in
set_option maxRecDepth 100000 in
theorem sm_tail0 (K : FX p s m c cL_samples 25 args (dC, dI) cI cJ cZ cO lf a) {t6 t7 t8 t9 t10 : Nat} {fm fh fs : Nat → Int32} {fy fp : Nat → Int64} {sa : Int32} {ou : Int64} (hk : k < 3) (hfy : ∀ j : Nat, j < 3 → fy j = yl_pme (T j)) (hme : ∀ fwm fu2 : Nat → Int64, FU2 k fu fu2 ou → (∀ i : Nat, i < 14 → fwm (20 * k + i) = fw (20 * k + i)) → ∃ d : Nat, d < 11 ∧ (fwm (20 * k + 3)).toInt32 = nI d ∧ yl_pme (U k) = lx_next fwm fu2 k d (yl_pme (T k))) (hR : 2 ≤ R.frames ∧ 52 ≤ R.locals) (hcs : cells ≤ R.cells ∧ slots ≤ R.slots) (hP : va_P (dC, dI) vwCl ([zAI cI t6 3 fm, zAI cI t7 3 fh, zAI cI t8 3 fs, zAJ cJ t9 3 fy, zAJ cJ t10 3 fp, zAJ cJ adW 60 fw, zAJ cJ adU 33 fu, zAJ cJ adG 60 fg, zAI cI adN 6 fn] ++ wB cI cJ cO adB adA lf bs a U) H) (hD : va_D A ([zAI cI t6 3 fm, zAI cI t7 3 fh, zAI cI t8 3 fs, zAJ cJ t9 3 fy, zAJ cJ t10 3 fp, zAJ cJ adW 60 fw, zAJ cJ adU 33 fu, zAJ cJ adG 60 fg, zAI cI adN 6 fn] ++ wB cI cJ cO adB adA lf bs a U)) (hS : va_S A s.heap H locs) (hA : ∀ q : Nat, s.heap.size ≤ q → A q) (hl : lv_has ls 25 [(23, .int (0 : Int32)), (18, .long ou), (13, .int (nI (20 * k))), (12, .int (nI k)), (11, .int (1 : Int32)), (0, .ref adB), (1, .ref adW), (2, .ref adU), (3, .ref adG), (4, .ref adN), (5, .int sa), (6, .ref t6), (7, .ref t7), (8, .ref t8), (9, .ref t9), (10, .ref t10)])
    (kk : ∀ (fw2 fu2 : Nat → Int64) (fn2 : Nat → Int32) (H : Heap) (locs : List Loc) (ls : Array Slot), FW2 k fw fw2 (yl_pme (T k)) 0 → FU2 k fu fu2 ou → (∀ i : Nat, i < 20 * k ∨ 20 * k + 20 ≤ i → fw2 i = fw i) → (∀ i : Nat, i < 11 * k ∨ 11 * k + 11 ≤ i → fu2 i = fu i) → fn2 = fn → va_P (dC, dI) vwCl ([zAI cI t6 3 fm, zAI cI t7 3 fh, zAI cI t8 3 fs, zAJ cJ t9 3 fy, zAJ cJ t10 3 fp, zAJ cJ adW 60 fw2, zAJ cJ adU 33 fu2, zAJ cJ adG 60 fg, zAI cI adN 6 fn2] ++ wB cI cJ cO adB adA lf bs a U) H → va_D A ([zAI cI t6 3 fm, zAI cI t7 3 fh, zAI cI t8 3 fs, zAJ cJ t9 3 fy, zAJ cJ t10 3 fp, zAJ cJ adW 60 fw2, zAJ cJ adU 33 fu2, zAJ cJ adG 60 fg, zAI cI adN 6 fn2] ++ wB cI cJ cO adB adA lf bs a U) → va_S A s.heap H locs → lv_has ls 25 [(12, .int (nI (k + 1))), (11, .int (1 : Int32)), (0, .ref adB), (1, .ref adW), (2, .ref adU), (3, .ref adG), (4, .ref adN), (5, .int sa), (6, .ref t6), (7, .ref t7), (8, .ref t8), (9, .ref t9), (10, .ref t10)] → W p l e R s m args below meth c H locs cells slots Q (F0 m 117 ls [])) : W p l e R s m args below meth c H locs cells slots Q (F0 m 637 ls []) := by
  obtain ⟨hx, hb, hml, hown, hts, hG, hK, hlf⟩ := id K
  refine lv_aload_n hx hb dL_samples_637 rfl (lv_at hl 6 rfl) ?_
  refine lv_iload hx hb dL_samples_638 (lv_at hl 2 rfl) ?_
  refine lv_bipush (v := 14) hx hb dL_samples_640 (by decide) ?_
  refine lv_iadd hx hb dL_samples_642 ?_
  refine hh_seti (y := (nI (20 * k + 14))) (lwAdd (a := 20 * k) (b := 14) (by omega)) ?_
  refine lv_iload hx hb dL_samples_643 (lv_at hl 0 rfl) ?_
  refine lv_if_eq (tgt := 658) hx hb dL_samples_645 (by decide) (fun _ => ?_) (fun h9 => absurd h9 (by decide))
  refine lv_lconst (v := 0) hx hb dL_samples_658 (by decide) ?_
  refine lr_ls hx hb hK hP hD hS 5 1 (e0 := 20 * k + 14) rfl rfl (by omega) (by decide) dL_samples_659 (w1 := ([zAI cI t6 3 fm, zAI cI t7 3 fh, zAI cI t8 3 fs, zAJ cJ t9 3 fy, zAJ cJ t10 3 fp, zAJ cJ adW 60 (vp_updL fw (20 * k + 14) (0 : Int64)), zAJ cJ adU 33 fu, zAJ cJ adG 60 fg, zAI cI adN 6 fn] ++ wB cI cJ cO adB adA lf bs a U)) rfl (fun H locs hP hD hS => ?_)
  refine lv_aload_n hx hb dL_samples_660 rfl (lv_at hl 6 rfl) ?_
  refine lv_iload hx hb dL_samples_661 (lv_at hl 2 rfl) ?_
  refine lv_bipush (v := 15) hx hb dL_samples_663 (by decide) ?_
  refine lv_iadd hx hb dL_samples_665 ?_
  refine hh_seti (y := (nI (20 * k + 15))) (lwAdd (a := 20 * k) (b := 15) (by omega)) ?_
  refine lv_lconst (v := 0) hx hb dL_samples_666 (by decide) ?_
  refine lr_ls hx hb hK hP hD hS 5 1 (e0 := 20 * k + 15) rfl rfl (by omega) (by decide) dL_samples_667 (w1 := ([zAI cI t6 3 fm, zAI cI t7 3 fh, zAI cI t8 3 fs, zAJ cJ t9 3 fy, zAJ cJ t10 3 fp, zAJ cJ adW 60 (vp_updL (vp_updL fw (20 * k + 14) (0 : Int64)) (20 * k + 15) (0 : Int64)), zAJ cJ adU 33 fu, zAJ cJ adG 60 fg, zAI cI adN 6 fn] ++ wB cI cJ cO adB adA lf bs a U)) rfl (fun H locs hP hD hS => ?_)
  refine lv_bipush (v := 11) hx hb dL_samples_668 (by decide) ?_
  refine lv_iload hx hb dL_samples_670 (lv_at hl 3 rfl) ?_
  refine lv_imul hx hb dL_samples_672 ?_
  refine hh_seti (y := (nI (11 * k))) (lwMul (a := 11) (b := k) (by omega)) ?_
  refine lv_bipush (v := 10) hx hb dL_samples_673 (by decide) ?_
  refine lv_iadd hx hb dL_samples_675 ?_
  refine hh_seti (y := (nI (11 * k + 10))) (lwAdd (a := 11 * k) (b := 10) (by omega)) ?_
  refine lv_istore (lv' := [(24, .int (nI (11 * k + 10))), (23, .int (0 : Int32)), (18, .long ou), (13, .int (nI (20 * k))), (12, .int (nI k)), (11, .int (1 : Int32)), (0, .ref adB), (1, .ref adW), (2, .ref adU), (3, .ref adG), (4, .ref adN), (5, .int sa), (6, .ref t6), (7, .ref t7), (8, .ref t8), (9, .ref t9), (10, .ref t10)]) hx hb dL_samples_676 hl (by decide) rfl (fun ls hl => ?_)
  refine lv_iload hx hb dL_samples_678 (lv_at hl 0 rfl) ?_
  refine lv_bipush (v := 11) hx hb dL_samples_680 (by decide) ?_
  refine lv_iload hx hb dL_samples_682 (lv_at hl 4 rfl) ?_
  refine lv_imul hx hb dL_samples_684 ?_
  refine hh_seti (y := (nI (11 * k))) (lwMul (a := 11) (b := k) (by omega)) ?_
  refine lv_icmp_le (tgt := 704) hx hb dL_samples_685 (by decide) (fun h9 => absurd h9 (fun q => absurd ((nI_leI (a := 11 * k + 10) (b := 11 * k) (by omega) (by omega)).mp q) (by omega))) (fun _ => ?_)
  refine lv_aload_n hx hb dL_samples_688 rfl (lv_at hl 8 rfl) ?_
  refine lv_iload hx hb dL_samples_689 (lv_at hl 0 rfl) ?_
  refine lv_aload_n hx hb dL_samples_691 rfl (lv_at hl 8 rfl) ?_
  refine lv_iload hx hb dL_samples_692 (lv_at hl 0 rfl) ?_
  refine lv_iconst (v := 1) hx hb dL_samples_694 (by decide) ?_
  refine lv_isub hx hb dL_samples_695 ?_
  refine hh_seti (y := (nI (11 * k + 9))) (lwSub (a := 11 * k + 10) (b := 1) (by omega)) ?_
  refine lr_ll hx hb hK hP 6 1 (e0 := 11 * k + 9) rfl rfl (by omega) (by decide) dL_samples_696 ?_
  refine lr_ls hx hb hK hP hD hS 6 1 (e0 := 11 * k + 10) rfl rfl (by omega) (by decide) dL_samples_697 (w1 := ([zAI cI t6 3 fm, zAI cI t7 3 fh, zAI cI t8 3 fs, zAJ cJ t9 3 fy, zAJ cJ t10 3 fp, zAJ cJ adW 60 (vp_updL (vp_updL fw (20 * k + 14) (0 : Int64)) (20 * k + 15) (0 : Int64)), zAJ cJ adU 33 (vp_updL fu (11 * k + 10) (fu (11 * k + 9))), zAJ cJ adG 60 fg, zAI cI adN 6 fn] ++ wB cI cJ cO adB adA lf bs a U)) rfl (fun H locs hP hD hS => ?_)
  refine lv_iinc (v := (nI (11 * k + 9))) (lv' := [(24, .int (nI (11 * k + 9))), (23, .int (0 : Int32)), (18, .long ou), (13, .int (nI (20 * k))), (12, .int (nI k)), (11, .int (1 : Int32)), (0, .ref adB), (1, .ref adW), (2, .ref adU), (3, .ref adG), (4, .ref adN), (5, .int sa), (6, .ref t6), (7, .ref t7), (8, .ref t8), (9, .ref t9), (10, .ref t10)]) hx hb dL_samples_698 hl (k := 0) rfl (lwDec (by omega)) (by decide) rfl (fun ls hl => ?_)
  refine lv_goto (tgt := 678) hx hb dL_samples_701 (by decide) ?_
  refine lv_iload hx hb dL_samples_678 (lv_at hl 0 rfl) ?_
  refine lv_bipush (v := 11) hx hb dL_samples_680 (by decide) ?_
  refine lv_iload hx hb dL_samples_682 (lv_at hl 4 rfl) ?_
  refine lv_imul hx hb dL_samples_684 ?_
  refine hh_seti (y := (nI (11 * k))) (lwMul (a := 11) (b := k) (by omega)) ?_
  refine lv_icmp_le (tgt := 704) hx hb dL_samples_685 (by decide) (fun h9 => absurd h9 (fun q => absurd ((nI_leI (a := 11 * k + 9) (b := 11 * k) (by omega) (by omega)).mp q) (by omega))) (fun _ => ?_)
  refine lv_aload_n hx hb dL_samples_688 rfl (lv_at hl 8 rfl) ?_
  refine lv_iload hx hb dL_samples_689 (lv_at hl 0 rfl) ?_
  refine lv_aload_n hx hb dL_samples_691 rfl (lv_at hl 8 rfl) ?_
  refine lv_iload hx hb dL_samples_692 (lv_at hl 0 rfl) ?_
  refine lv_iconst (v := 1) hx hb dL_samples_694 (by decide) ?_
  refine lv_isub hx hb dL_samples_695 ?_
  refine hh_seti (y := (nI (11 * k + 8))) (lwSub (a := 11 * k + 9) (b := 1) (by omega)) ?_
  refine lr_ll hx hb hK hP 6 1 (e0 := 11 * k + 8) rfl rfl (by omega) (by decide) dL_samples_696 ?_
  refine hh_setl (y := (fu (11 * k + 8))) ((ul_ne _ _ (by omega)).symm) ?_
  refine lr_ls hx hb hK hP hD hS 6 1 (e0 := 11 * k + 9) rfl rfl (by omega) (by decide) dL_samples_697 (w1 := ([zAI cI t6 3 fm, zAI cI t7 3 fh, zAI cI t8 3 fs, zAJ cJ t9 3 fy, zAJ cJ t10 3 fp, zAJ cJ adW 60 (vp_updL (vp_updL fw (20 * k + 14) (0 : Int64)) (20 * k + 15) (0 : Int64)), zAJ cJ adU 33 (vp_updL (vp_updL fu (11 * k + 10) (fu (11 * k + 9))) (11 * k + 9) (fu (11 * k + 8))), zAJ cJ adG 60 fg, zAI cI adN 6 fn] ++ wB cI cJ cO adB adA lf bs a U)) rfl (fun H locs hP hD hS => ?_)
  refine lv_iinc (v := (nI (11 * k + 8))) (lv' := [(24, .int (nI (11 * k + 8))), (23, .int (0 : Int32)), (18, .long ou), (13, .int (nI (20 * k))), (12, .int (nI k)), (11, .int (1 : Int32)), (0, .ref adB), (1, .ref adW), (2, .ref adU), (3, .ref adG), (4, .ref adN), (5, .int sa), (6, .ref t6), (7, .ref t7), (8, .ref t8), (9, .ref t9), (10, .ref t10)]) hx hb dL_samples_698 hl (k := 0) rfl (lwDec (by omega)) (by decide) rfl (fun ls hl => ?_)
  refine lv_goto (tgt := 678) hx hb dL_samples_701 (by decide) ?_
  refine lv_iload hx hb dL_samples_678 (lv_at hl 0 rfl) ?_
  refine lv_bipush (v := 11) hx hb dL_samples_680 (by decide) ?_
  refine lv_iload hx hb dL_samples_682 (lv_at hl 4 rfl) ?_
  refine lv_imul hx hb dL_samples_684 ?_
  refine hh_seti (y := (nI (11 * k))) (lwMul (a := 11) (b := k) (by omega)) ?_
  refine lv_icmp_le (tgt := 704) hx hb dL_samples_685 (by decide) (fun h9 => absurd h9 (fun q => absurd ((nI_leI (a := 11 * k + 8) (b := 11 * k) (by omega) (by omega)).mp q) (by omega))) (fun _ => ?_)
  refine lv_aload_n hx hb dL_samples_688 rfl (lv_at hl 8 rfl) ?_
  refine lv_iload hx hb dL_samples_689 (lv_at hl 0 rfl) ?_
  refine lv_aload_n hx hb dL_samples_691 rfl (lv_at hl 8 rfl) ?_
  refine lv_iload hx hb dL_samples_692 (lv_at hl 0 rfl) ?_
  refine lv_iconst (v := 1) hx hb dL_samples_694 (by decide) ?_
  refine lv_isub hx hb dL_samples_695 ?_
  refine hh_seti (y := (nI (11 * k + 7))) (lwSub (a := 11 * k + 8) (b := 1) (by omega)) ?_
  refine lr_ll hx hb hK hP 6 1 (e0 := 11 * k + 7) rfl rfl (by omega) (by decide) dL_samples_696 ?_
  refine hh_setl (y := (fu (11 * k + 7))) (((ul_ne _ _ (by omega)).trans (ul_ne _ _ (by omega))).symm) ?_
  refine lr_ls hx hb hK hP hD hS 6 1 (e0 := 11 * k + 8) rfl rfl (by omega) (by decide) dL_samples_697 (w1 := ([zAI cI t6 3 fm, zAI cI t7 3 fh, zAI cI t8 3 fs, zAJ cJ t9 3 fy, zAJ cJ t10 3 fp, zAJ cJ adW 60 (vp_updL (vp_updL fw (20 * k + 14) (0 : Int64)) (20 * k + 15) (0 : Int64)), zAJ cJ adU 33 (vp_updL (vp_updL (vp_updL fu (11 * k + 10) (fu (11 * k + 9))) (11 * k + 9) (fu (11 * k + 8))) (11 * k + 8) (fu (11 * k + 7))), zAJ cJ adG 60 fg, zAI cI adN 6 fn] ++ wB cI cJ cO adB adA lf bs a U)) rfl (fun H locs hP hD hS => ?_)
  refine lv_iinc (v := (nI (11 * k + 7))) (lv' := [(24, .int (nI (11 * k + 7))), (23, .int (0 : Int32)), (18, .long ou), (13, .int (nI (20 * k))), (12, .int (nI k)), (11, .int (1 : Int32)), (0, .ref adB), (1, .ref adW), (2, .ref adU), (3, .ref adG), (4, .ref adN), (5, .int sa), (6, .ref t6), (7, .ref t7), (8, .ref t8), (9, .ref t9), (10, .ref t10)]) hx hb dL_samples_698 hl (k := 0) rfl (lwDec (by omega)) (by decide) rfl (fun ls hl => ?_)
  refine lv_goto (tgt := 678) hx hb dL_samples_701 (by decide) ?_
  refine lv_iload hx hb dL_samples_678 (lv_at hl 0 rfl) ?_
  refine lv_bipush (v := 11) hx hb dL_samples_680 (by decide) ?_
  refine lv_iload hx hb dL_samples_682 (lv_at hl 4 rfl) ?_
  refine lv_imul hx hb dL_samples_684 ?_
  refine hh_seti (y := (nI (11 * k))) (lwMul (a := 11) (b := k) (by omega)) ?_
  refine lv_icmp_le (tgt := 704) hx hb dL_samples_685 (by decide) (fun h9 => absurd h9 (fun q => absurd ((nI_leI (a := 11 * k + 7) (b := 11 * k) (by omega) (by omega)).mp q) (by omega))) (fun _ => ?_)
  refine lv_aload_n hx hb dL_samples_688 rfl (lv_at hl 8 rfl) ?_
  refine lv_iload hx hb dL_samples_689 (lv_at hl 0 rfl) ?_
  refine lv_aload_n hx hb dL_samples_691 rfl (lv_at hl 8 rfl) ?_
  refine lv_iload hx hb dL_samples_692 (lv_at hl 0 rfl) ?_
  refine lv_iconst (v := 1) hx hb dL_samples_694 (by decide) ?_
  refine lv_isub hx hb dL_samples_695 ?_
  refine hh_seti (y := (nI (11 * k + 6))) (lwSub (a := 11 * k + 7) (b := 1) (by omega)) ?_
  refine lr_ll hx hb hK hP 6 1 (e0 := 11 * k + 6) rfl rfl (by omega) (by decide) dL_samples_696 ?_
  refine hh_setl (y := (fu (11 * k + 6))) (((ul_ne _ _ (by omega)).trans ((ul_ne _ _ (by omega)).trans (ul_ne _ _ (by omega)))).symm) ?_
  refine lr_ls hx hb hK hP hD hS 6 1 (e0 := 11 * k + 7) rfl rfl (by omega) (by decide) dL_samples_697 (w1 := ([zAI cI t6 3 fm, zAI cI t7 3 fh, zAI cI t8 3 fs, zAJ cJ t9 3 fy, zAJ cJ t10 3 fp, zAJ cJ adW 60 (vp_updL (vp_updL fw (20 * k + 14) (0 : Int64)) (20 * k + 15) (0 : Int64)), zAJ cJ adU 33 (vp_updL (vp_updL (vp_updL (vp_updL fu (11 * k + 10) (fu (11 * k + 9))) (11 * k + 9) (fu (11 * k + 8))) (11 * k + 8) (fu (11 * k + 7))) (11 * k + 7) (fu (11 * k + 6))), zAJ cJ adG 60 fg, zAI cI adN 6 fn] ++ wB cI cJ cO adB adA lf bs a U)) rfl (fun H locs hP hD hS => ?_)
  refine lv_iinc (v := (nI (11 * k + 6))) (lv' := [(24, .int (nI (11 * k + 6))), (23, .int (0 : Int32)), (18, .long ou), (13, .int (nI (20 * k))), (12, .int (nI k)), (11, .int (1 : Int32)), (0, .ref adB), (1, .ref adW), (2, .ref adU), (3, .ref adG), (4, .ref adN), (5, .int sa), (6, .ref t6), (7, .ref t7), (8, .ref t8), (9, .ref t9), (10, .ref t10)]) hx hb dL_samples_698 hl (k := 0) rfl (lwDec (by omega)) (by decide) rfl (fun ls hl => ?_)
  refine lv_goto (tgt := 678) hx hb dL_samples_701 (by decide) ?_
  refine lv_iload hx hb dL_samples_678 (lv_at hl 0 rfl) ?_
  refine lv_bipush (v := 11) hx hb dL_samples_680 (by decide) ?_
  refine lv_iload hx hb dL_samples_682 (lv_at hl 4 rfl) ?_
  refine lv_imul hx hb dL_samples_684 ?_
  refine hh_seti (y := (nI (11 * k))) (lwMul (a := 11) (b := k) (by omega)) ?_
  refine lv_icmp_le (tgt := 704) hx hb dL_samples_685 (by decide) (fun h9 => absurd h9 (fun q => absurd ((nI_leI (a := 11 * k + 6) (b := 11 * k) (by omega) (by omega)).mp q) (by omega))) (fun _ => ?_)
  refine lv_aload_n hx hb dL_samples_688 rfl (lv_at hl 8 rfl) ?_
  refine lv_iload hx hb dL_samples_689 (lv_at hl 0 rfl) ?_
  refine lv_aload_n hx hb dL_samples_691 rfl (lv_at hl 8 rfl) ?_
  refine lv_iload hx hb dL_samples_692 (lv_at hl 0 rfl) ?_
  refine lv_iconst (v := 1) hx hb dL_samples_694 (by decide) ?_
  refine lv_isub hx hb dL_samples_695 ?_
  refine hh_seti (y := (nI (11 * k + 5))) (lwSub (a := 11 * k + 6) (b := 1) (by omega)) ?_
  refine lr_ll hx hb hK hP 6 1 (e0 := 11 * k + 5) rfl rfl (by omega) (by decide) dL_samples_696 ?_
  refine hh_setl (y := (fu (11 * k + 5))) (((ul_ne _ _ (by omega)).trans ((ul_ne _ _ (by omega)).trans ((ul_ne _ _ (by omega)).trans (ul_ne _ _ (by omega))))).symm) ?_
  refine lr_ls hx hb hK hP hD hS 6 1 (e0 := 11 * k + 6) rfl rfl (by omega) (by decide) dL_samples_697 (w1 := ([zAI cI t6 3 fm, zAI cI t7 3 fh, zAI cI t8 3 fs, zAJ cJ t9 3 fy, zAJ cJ t10 3 fp, zAJ cJ adW 60 (vp_updL (vp_updL fw (20 * k + 14) (0 : Int64)) (20 * k + 15) (0 : Int64)), zAJ cJ adU 33 (vp_updL (vp_updL (vp_updL (vp_updL (vp_updL fu (11 * k + 10) (fu (11 * k + 9))) (11 * k + 9) (fu (11 * k + 8))) (11 * k + 8) (fu (11 * k + 7))) (11 * k + 7) (fu (11 * k + 6))) (11 * k + 6) (fu (11 * k + 5))), zAJ cJ adG 60 fg, zAI cI adN 6 fn] ++ wB cI cJ cO adB adA lf bs a U)) rfl (fun H locs hP hD hS => ?_)
  refine lv_iinc (v := (nI (11 * k + 5))) (lv' := [(24, .int (nI (11 * k + 5))), (23, .int (0 : Int32)), (18, .long ou), (13, .int (nI (20 * k))), (12, .int (nI k)), (11, .int (1 : Int32)), (0, .ref adB), (1, .ref adW), (2, .ref adU), (3, .ref adG), (4, .ref adN), (5, .int sa), (6, .ref t6), (7, .ref t7), (8, .ref t8), (9, .ref t9), (10, .ref t10)]) hx hb dL_samples_698 hl (k := 0) rfl (lwDec (by omega)) (by decide) rfl (fun ls hl => ?_)
  refine lv_goto (tgt := 678) hx hb dL_samples_701 (by decide) ?_
  refine lv_iload hx hb dL_samples_678 (lv_at hl 0 rfl) ?_
  refine lv_bipush (v := 11) hx hb dL_samples_680 (by decide) ?_
  refine lv_iload hx hb dL_samples_682 (lv_at hl 4 rfl) ?_
  refine lv_imul hx hb dL_samples_684 ?_
  refine hh_seti (y := (nI (11 * k))) (lwMul (a := 11) (b := k) (by omega)) ?_
  refine lv_icmp_le (tgt := 704) hx hb dL_samples_685 (by decide) (fun h9 => absurd h9 (fun q => absurd ((nI_leI (a := 11 * k + 5) (b := 11 * k) (by omega) (by omega)).mp q) (by omega))) (fun _ => ?_)
  refine lv_aload_n hx hb dL_samples_688 rfl (lv_at hl 8 rfl) ?_
  refine lv_iload hx hb dL_samples_689 (lv_at hl 0 rfl) ?_
  refine lv_aload_n hx hb dL_samples_691 rfl (lv_at hl 8 rfl) ?_
  refine lv_iload hx hb dL_samples_692 (lv_at hl 0 rfl) ?_
  refine lv_iconst (v := 1) hx hb dL_samples_694 (by decide) ?_
  refine lv_isub hx hb dL_samples_695 ?_
  refine hh_seti (y := (nI (11 * k + 4))) (lwSub (a := 11 * k + 5) (b := 1) (by omega)) ?_
  refine lr_ll hx hb hK hP 6 1 (e0 := 11 * k + 4) rfl rfl (by omega) (by decide) dL_samples_696 ?_
  refine hh_setl (y := (fu (11 * k + 4))) (((ul_ne _ _ (by omega)).trans ((ul_ne _ _ (by omega)).trans ((ul_ne _ _ (by omega)).trans ((ul_ne _ _ (by omega)).trans (ul_ne _ _ (by omega)))))).symm) ?_
  refine lr_ls hx hb hK hP hD hS 6 1 (e0 := 11 * k + 5) rfl rfl (by omega) (by decide) dL_samples_697 (w1 := ([zAI cI t6 3 fm, zAI cI t7 3 fh, zAI cI t8 3 fs, zAJ cJ t9 3 fy, zAJ cJ t10 3 fp, zAJ cJ adW 60 (vp_updL (vp_updL fw (20 * k + 14) (0 : Int64)) (20 * k + 15) (0 : Int64)), zAJ cJ adU 33 (vp_updL (vp_updL (vp_updL (vp_updL (vp_updL (vp_updL fu (11 * k + 10) (fu (11 * k + 9))) (11 * k + 9) (fu (11 * k + 8))) (11 * k + 8) (fu (11 * k + 7))) (11 * k + 7) (fu (11 * k + 6))) (11 * k + 6) (fu (11 * k + 5))) (11 * k + 5) (fu (11 * k + 4))), zAJ cJ adG 60 fg, zAI cI adN 6 fn] ++ wB cI cJ cO adB adA lf bs a U)) rfl (fun H locs hP hD hS => ?_)
  refine lv_iinc (v := (nI (11 * k + 4))) (lv' := [(24, .int (nI (11 * k + 4))), (23, .int (0 : Int32)), (18, .long ou), (13, .int (nI (20 * k))), (12, .int (nI k)), (11, .int (1 : Int32)), (0, .ref adB), (1, .ref adW), (2, .ref adU), (3, .ref adG), (4, .ref adN), (5, .int sa), (6, .ref t6), (7, .ref t7), (8, .ref t8), (9, .ref t9), (10, .ref t10)]) hx hb dL_samples_698 hl (k := 0) rfl (lwDec (by omega)) (by decide) rfl (fun ls hl => ?_)
  refine lv_goto (tgt := 678) hx hb dL_samples_701 (by decide) ?_
  refine lv_iload hx hb dL_samples_678 (lv_at hl 0 rfl) ?_
  refine lv_bipush (v := 11) hx hb dL_samples_680 (by decide) ?_
  refine lv_iload hx hb dL_samples_682 (lv_at hl 4 rfl) ?_
  refine lv_imul hx hb dL_samples_684 ?_
  refine hh_seti (y := (nI (11 * k))) (lwMul (a := 11) (b := k) (by omega)) ?_
  refine lv_icmp_le (tgt := 704) hx hb dL_samples_685 (by decide) (fun h9 => absurd h9 (fun q => absurd ((nI_leI (a := 11 * k + 4) (b := 11 * k) (by omega) (by omega)).mp q) (by omega))) (fun _ => ?_)
  refine lv_aload_n hx hb dL_samples_688 rfl (lv_at hl 8 rfl) ?_
  refine lv_iload hx hb dL_samples_689 (lv_at hl 0 rfl) ?_
  refine lv_aload_n hx hb dL_samples_691 rfl (lv_at hl 8 rfl) ?_
  refine lv_iload hx hb dL_samples_692 (lv_at hl 0 rfl) ?_
  refine lv_iconst (v := 1) hx hb dL_samples_694 (by decide) ?_
  refine lv_isub hx hb dL_samples_695 ?_
  refine hh_seti (y := (nI (11 * k + 3))) (lwSub (a := 11 * k + 4) (b := 1) (by omega)) ?_
  refine lr_ll hx hb hK hP 6 1 (e0 := 11 * k + 3) rfl rfl (by omega) (by decide) dL_samples_696 ?_
  refine hh_setl (y := (fu (11 * k + 3))) (((ul_ne _ _ (by omega)).trans ((ul_ne _ _ (by omega)).trans ((ul_ne _ _ (by omega)).trans ((ul_ne _ _ (by omega)).trans ((ul_ne _ _ (by omega)).trans (ul_ne _ _ (by omega))))))).symm) ?_
  refine lr_ls hx hb hK hP hD hS 6 1 (e0 := 11 * k + 4) rfl rfl (by omega) (by decide) dL_samples_697 (w1 := ([zAI cI t6 3 fm, zAI cI t7 3 fh, zAI cI t8 3 fs, zAJ cJ t9 3 fy, zAJ cJ t10 3 fp, zAJ cJ adW 60 (vp_updL (vp_updL fw (20 * k + 14) (0 : Int64)) (20 * k + 15) (0 : Int64)), zAJ cJ adU 33 (vp_updL (vp_updL (vp_updL (vp_updL (vp_updL (vp_updL (vp_updL fu (11 * k + 10) (fu (11 * k + 9))) (11 * k + 9) (fu (11 * k + 8))) (11 * k + 8) (fu (11 * k + 7))) (11 * k + 7) (fu (11 * k + 6))) (11 * k + 6) (fu (11 * k + 5))) (11 * k + 5) (fu (11 * k + 4))) (11 * k + 4) (fu (11 * k + 3))), zAJ cJ adG 60 fg, zAI cI adN 6 fn] ++ wB cI cJ cO adB adA lf bs a U)) rfl (fun H locs hP hD hS => ?_)
  refine lv_iinc (v := (nI (11 * k + 3))) (lv' := [(24, .int (nI (11 * k + 3))), (23, .int (0 : Int32)), (18, .long ou), (13, .int (nI (20 * k))), (12, .int (nI k)), (11, .int (1 : Int32)), (0, .ref adB), (1, .ref adW), (2, .ref adU), (3, .ref adG), (4, .ref adN), (5, .int sa), (6, .ref t6), (7, .ref t7), (8, .ref t8), (9, .ref t9), (10, .ref t10)]) hx hb dL_samples_698 hl (k := 0) rfl (lwDec (by omega)) (by decide) rfl (fun ls hl => ?_)
  refine lv_goto (tgt := 678) hx hb dL_samples_701 (by decide) ?_
  refine lv_iload hx hb dL_samples_678 (lv_at hl 0 rfl) ?_
  refine lv_bipush (v := 11) hx hb dL_samples_680 (by decide) ?_
  refine lv_iload hx hb dL_samples_682 (lv_at hl 4 rfl) ?_
  refine lv_imul hx hb dL_samples_684 ?_
  refine hh_seti (y := (nI (11 * k))) (lwMul (a := 11) (b := k) (by omega)) ?_
  refine lv_icmp_le (tgt := 704) hx hb dL_samples_685 (by decide) (fun h9 => absurd h9 (fun q => absurd ((nI_leI (a := 11 * k + 3) (b := 11 * k) (by omega) (by omega)).mp q) (by omega))) (fun _ => ?_)
  refine lv_aload_n hx hb dL_samples_688 rfl (lv_at hl 8 rfl) ?_
  refine lv_iload hx hb dL_samples_689 (lv_at hl 0 rfl) ?_
  refine lv_aload_n hx hb dL_samples_691 rfl (lv_at hl 8 rfl) ?_
  refine lv_iload hx hb dL_samples_692 (lv_at hl 0 rfl) ?_
  refine lv_iconst (v := 1) hx hb dL_samples_694 (by decide) ?_
  refine lv_isub hx hb dL_samples_695 ?_
  refine hh_seti (y := (nI (11 * k + 2))) (lwSub (a := 11 * k + 3) (b := 1) (by omega)) ?_
  refine lr_ll hx hb hK hP 6 1 (e0 := 11 * k + 2) rfl rfl (by omega) (by decide) dL_samples_696 ?_
  refine hh_setl (y := (fu (11 * k + 2))) (((ul_ne _ _ (by omega)).trans ((ul_ne _ _ (by omega)).trans ((ul_ne _ _ (by omega)).trans ((ul_ne _ _ (by omega)).trans ((ul_ne _ _ (by omega)).trans ((ul_ne _ _ (by omega)).trans (ul_ne _ _ (by omega)))))))).symm) ?_
  refine lr_ls hx hb hK hP hD hS 6 1 (e0 := 11 * k + 3) rfl rfl (by omega) (by decide) dL_samples_697 (w1 := ([zAI cI t6 3 fm, zAI cI t7 3 fh, zAI cI t8 3 fs, zAJ cJ t9 3 fy, zAJ cJ t10 3 fp, zAJ cJ adW 60 (vp_updL (vp_updL fw (20 * k + 14) (0 : Int64)) (20 * k + 15) (0 : Int64)), zAJ cJ adU 33 (vp_updL (vp_updL (vp_updL (vp_updL (vp_updL (vp_updL (vp_updL (vp_updL fu (11 * k + 10) (fu (11 * k + 9))) (11 * k + 9) (fu (11 * k + 8))) (11 * k + 8) (fu (11 * k + 7))) (11 * k + 7) (fu (11 * k + 6))) (11 * k + 6) (fu (11 * k + 5))) (11 * k + 5) (fu (11 * k + 4))) (11 * k + 4) (fu (11 * k + 3))) (11 * k + 3) (fu (11 * k + 2))), zAJ cJ adG 60 fg, zAI cI adN 6 fn] ++ wB cI cJ cO adB adA lf bs a U)) rfl (fun H locs hP hD hS => ?_)
  refine lv_iinc (v := (nI (11 * k + 2))) (lv' := [(24, .int (nI (11 * k + 2))), (23, .int (0 : Int32)), (18, .long ou), (13, .int (nI (20 * k))), (12, .int (nI k)), (11, .int (1 : Int32)), (0, .ref adB), (1, .ref adW), (2, .ref adU), (3, .ref adG), (4, .ref adN), (5, .int sa), (6, .ref t6), (7, .ref t7), (8, .ref t8), (9, .ref t9), (10, .ref t10)]) hx hb dL_samples_698 hl (k := 0) rfl (lwDec (by omega)) (by decide) rfl (fun ls hl => ?_)
  refine lv_goto (tgt := 678) hx hb dL_samples_701 (by decide) ?_
  refine lv_iload hx hb dL_samples_678 (lv_at hl 0 rfl) ?_
  refine lv_bipush (v := 11) hx hb dL_samples_680 (by decide) ?_
  refine lv_iload hx hb dL_samples_682 (lv_at hl 4 rfl) ?_
  refine lv_imul hx hb dL_samples_684 ?_
  refine hh_seti (y := (nI (11 * k))) (lwMul (a := 11) (b := k) (by omega)) ?_
  refine lv_icmp_le (tgt := 704) hx hb dL_samples_685 (by decide) (fun h9 => absurd h9 (fun q => absurd ((nI_leI (a := 11 * k + 2) (b := 11 * k) (by omega) (by omega)).mp q) (by omega))) (fun _ => ?_)
  refine lv_aload_n hx hb dL_samples_688 rfl (lv_at hl 8 rfl) ?_
  refine lv_iload hx hb dL_samples_689 (lv_at hl 0 rfl) ?_
  refine lv_aload_n hx hb dL_samples_691 rfl (lv_at hl 8 rfl) ?_
  refine lv_iload hx hb dL_samples_692 (lv_at hl 0 rfl) ?_
  refine lv_iconst (v := 1) hx hb dL_samples_694 (by decide) ?_
  refine lv_isub hx hb dL_samples_695 ?_
  refine hh_seti (y := (nI (11 * k + 1))) (lwSub (a := 11 * k + 2) (b := 1) (by omega)) ?_
  refine lr_ll hx hb hK hP 6 1 (e0 := 11 * k + 1) rfl rfl (by omega) (by decide) dL_samples_696 ?_
  refine hh_setl (y := (fu (11 * k + 1))) (((ul_ne _ _ (by omega)).trans ((ul_ne _ _ (by omega)).trans ((ul_ne _ _ (by omega)).trans ((ul_ne _ _ (by omega)).trans ((ul_ne _ _ (by omega)).trans ((ul_ne _ _ (by omega)).trans ((ul_ne _ _ (by omega)).trans (ul_ne _ _ (by omega))))))))).symm) ?_
  refine lr_ls hx hb hK hP hD hS 6 1 (e0 := 11 * k + 2) rfl rfl (by omega) (by decide) dL_samples_697 (w1 := ([zAI cI t6 3 fm, zAI cI t7 3 fh, zAI cI t8 3 fs, zAJ cJ t9 3 fy, zAJ cJ t10 3 fp, zAJ cJ adW 60 (vp_updL (vp_updL fw (20 * k + 14) (0 : Int64)) (20 * k + 15) (0 : Int64)), zAJ cJ adU 33 (vp_updL (vp_updL (vp_updL (vp_updL (vp_updL (vp_updL (vp_updL (vp_updL (vp_updL fu (11 * k + 10) (fu (11 * k + 9))) (11 * k + 9) (fu (11 * k + 8))) (11 * k + 8) (fu (11 * k + 7))) (11 * k + 7) (fu (11 * k + 6))) (11 * k + 6) (fu (11 * k + 5))) (11 * k + 5) (fu (11 * k + 4))) (11 * k + 4) (fu (11 * k + 3))) (11 * k + 3) (fu (11 * k + 2))) (11 * k + 2) (fu (11 * k + 1))), zAJ cJ adG 60 fg, zAI cI adN 6 fn] ++ wB cI cJ cO adB adA lf bs a U)) rfl (fun H locs hP hD hS => ?_)
  refine lv_iinc (v := (nI (11 * k + 1))) (lv' := [(24, .int (nI (11 * k + 1))), (23, .int (0 : Int32)), (18, .long ou), (13, .int (nI (20 * k))), (12, .int (nI k)), (11, .int (1 : Int32)), (0, .ref adB), (1, .ref adW), (2, .ref adU), (3, .ref adG), (4, .ref adN), (5, .int sa), (6, .ref t6), (7, .ref t7), (8, .ref t8), (9, .ref t9), (10, .ref t10)]) hx hb dL_samples_698 hl (k := 0) rfl (lwDec (by omega)) (by decide) rfl (fun ls hl => ?_)
  refine lv_goto (tgt := 678) hx hb dL_samples_701 (by decide) ?_
  refine lv_iload hx hb dL_samples_678 (lv_at hl 0 rfl) ?_
  refine lv_bipush (v := 11) hx hb dL_samples_680 (by decide) ?_
  refine lv_iload hx hb dL_samples_682 (lv_at hl 4 rfl) ?_
  refine lv_imul hx hb dL_samples_684 ?_
  refine hh_seti (y := (nI (11 * k))) (lwMul (a := 11) (b := k) (by omega)) ?_
  refine lv_icmp_le (tgt := 704) hx hb dL_samples_685 (by decide) (fun h9 => absurd h9 (fun q => absurd ((nI_leI (a := 11 * k + 1) (b := 11 * k) (by omega) (by omega)).mp q) (by omega))) (fun _ => ?_)
  refine lv_aload_n hx hb dL_samples_688 rfl (lv_at hl 8 rfl) ?_
  refine lv_iload hx hb dL_samples_689 (lv_at hl 0 rfl) ?_
  refine lv_aload_n hx hb dL_samples_691 rfl (lv_at hl 8 rfl) ?_
  refine lv_iload hx hb dL_samples_692 (lv_at hl 0 rfl) ?_
  refine lv_iconst (v := 1) hx hb dL_samples_694 (by decide) ?_
  refine lv_isub hx hb dL_samples_695 ?_
  refine hh_seti (y := (nI (11 * k))) (lwSub (a := 11 * k + 1) (b := 1) (by omega)) ?_
  refine lr_ll hx hb hK hP 6 1 (e0 := 11 * k) rfl rfl (by omega) (by decide) dL_samples_696 ?_
  refine hh_setl (y := (fu (11 * k))) (((ul_ne _ _ (by omega)).trans ((ul_ne _ _ (by omega)).trans ((ul_ne _ _ (by omega)).trans ((ul_ne _ _ (by omega)).trans ((ul_ne _ _ (by omega)).trans ((ul_ne _ _ (by omega)).trans ((ul_ne _ _ (by omega)).trans ((ul_ne _ _ (by omega)).trans (ul_ne _ _ (by omega)))))))))).symm) ?_
  refine lr_ls hx hb hK hP hD hS 6 1 (e0 := 11 * k + 1) rfl rfl (by omega) (by decide) dL_samples_697 (w1 := ([zAI cI t6 3 fm, zAI cI t7 3 fh, zAI cI t8 3 fs, zAJ cJ t9 3 fy, zAJ cJ t10 3 fp, zAJ cJ adW 60 (vp_updL (vp_updL fw (20 * k + 14) (0 : Int64)) (20 * k + 15) (0 : Int64)), zAJ cJ adU 33 (vp_updL (vp_updL (vp_updL (vp_updL (vp_updL (vp_updL (vp_updL (vp_updL (vp_updL (vp_updL fu (11 * k + 10) (fu (11 * k + 9))) (11 * k + 9) (fu (11 * k + 8))) (11 * k + 8) (fu (11 * k + 7))) (11 * k + 7) (fu (11 * k + 6))) (11 * k + 6) (fu (11 * k + 5))) (11 * k + 5) (fu (11 * k + 4))) (11 * k + 4) (fu (11 * k + 3))) (11 * k + 3) (fu (11 * k + 2))) (11 * k + 2) (fu (11 * k + 1))) (11 * k + 1) (fu (11 * k))), zAJ cJ adG 60 fg, zAI cI adN 6 fn] ++ wB cI cJ cO adB adA lf bs a U)) rfl (fun H locs hP hD hS => ?_)
  refine lv_iinc (v := (nI (11 * k))) (lv' := [(24, .int (nI (11 * k))), (23, .int (0 : Int32)), (18, .long ou), (13, .int (nI (20 * k))), (12, .int (nI k)), (11, .int (1 : Int32)), (0, .ref adB), (1, .ref adW), (2, .ref adU), (3, .ref adG), (4, .ref adN), (5, .int sa), (6, .ref t6), (7, .ref t7), (8, .ref t8), (9, .ref t9), (10, .ref t10)]) hx hb dL_samples_698 hl (k := 0) rfl (lwDec (by omega)) (by decide) rfl (fun ls hl => ?_)
  refine lv_goto (tgt := 678) hx hb dL_samples_701 (by decide) ?_
  refine lv_iload hx hb dL_samples_678 (lv_at hl 0 rfl) ?_
  refine lv_bipush (v := 11) hx hb dL_samples_680 (by decide) ?_
  refine lv_iload hx hb dL_samples_682 (lv_at hl 4 rfl) ?_
  refine lv_imul hx hb dL_samples_684 ?_
  refine hh_seti (y := (nI (11 * k))) (lwMul (a := 11) (b := k) (by omega)) ?_
  refine lv_icmp_le (tgt := 704) hx hb dL_samples_685 (by decide) (fun _ => ?_) (fun h9 => absurd ((nI_leI (a := 11 * k) (b := 11 * k) (by omega) (by omega)).mpr (by omega)) h9)
  refine lv_aload_n hx hb dL_samples_704 rfl (lv_at hl 8 rfl) ?_
  refine lv_bipush (v := 11) hx hb dL_samples_705 (by decide) ?_
  refine lv_iload hx hb dL_samples_707 (lv_at hl 4 rfl) ?_
  refine lv_imul hx hb dL_samples_709 ?_
  refine hh_seti (y := (nI (11 * k))) (lwMul (a := 11) (b := k) (by omega)) ?_
  refine lv_lload hx hb dL_samples_710 (lv_at hl 2 rfl) ?_
  refine lr_ls hx hb hK hP hD hS 6 1 (e0 := 11 * k) rfl rfl (by omega) (by decide) dL_samples_712 (w1 := ([zAI cI t6 3 fm, zAI cI t7 3 fh, zAI cI t8 3 fs, zAJ cJ t9 3 fy, zAJ cJ t10 3 fp, zAJ cJ adW 60 (vp_updL (vp_updL fw (20 * k + 14) (0 : Int64)) (20 * k + 15) (0 : Int64)), zAJ cJ adU 33 (vp_updL (vp_updL (vp_updL (vp_updL (vp_updL (vp_updL (vp_updL (vp_updL (vp_updL (vp_updL (vp_updL fu (11 * k + 10) (fu (11 * k + 9))) (11 * k + 9) (fu (11 * k + 8))) (11 * k + 8) (fu (11 * k + 7))) (11 * k + 7) (fu (11 * k + 6))) (11 * k + 6) (fu (11 * k + 5))) (11 * k + 5) (fu (11 * k + 4))) (11 * k + 4) (fu (11 * k + 3))) (11 * k + 3) (fu (11 * k + 2))) (11 * k + 2) (fu (11 * k + 1))) (11 * k + 1) (fu (11 * k))) (11 * k) ou), zAJ cJ adG 60 fg, zAI cI adN 6 fn] ++ wB cI cJ cO adB adA lf bs a U)) rfl (fun H locs hP hD hS => ?_)
  refine lv_iload hx hb dL_samples_713 (lv_at hl 5 rfl) ?_
  refine lv_if_eq (tgt := 744) hx hb dL_samples_715 (by decide) (fun h9 => absurd h9 (by decide)) (fun _ => ?_)
  refine lv_aload_n hx hb dL_samples_718 rfl (lv_at hl 6 rfl) ?_
  refine lv_iload hx hb dL_samples_719 (lv_at hl 4 rfl) ?_
  refine s_measure (k := k)  K hk  ⟨Nat.le_trans (Nat.le_of_ble_eq_true rfl) hR.1, Nat.le_trans (Nat.le_of_ble_eq_true rfl) hR.2⟩ hcs (Nat.le_of_ble_eq_true rfl) hP hD hS hA hl.1 dL_samples_721 (fun H locs hP hD hS => ?_)
  refine hh_setl (y := (yl_pme (U k))) (rfl) ?_
  refine lv_aload_n hx hb dL_samples_724 rfl (lv_at hl 7 rfl) ?_
  refine lv_aload_n hx hb dL_samples_725 rfl (lv_at hl 8 rfl) ?_
  refine lv_iload hx hb dL_samples_726 (lv_at hl 4 rfl) ?_
  refine lv_aload hx hb dL_samples_728 (lv_at hl 15 rfl) ?_
  refine lv_iload hx hb dL_samples_730 (lv_at hl 4 rfl) ?_
  refine lr_ll hx hb hK hP 3 1 (e0 := k) rfl rfl (by omega) (by decide) dL_samples_732 ?_
  refine hh_setl (y := (yl_pme (T k))) ((hfy k (by omega)).symm) ?_
  have hFU : FU2 k fu (vp_updL (vp_updL (vp_updL (vp_updL (vp_updL (vp_updL (vp_updL (vp_updL (vp_updL (vp_updL (vp_updL fu (11 * k + 10) (fu (11 * k + 9))) (11 * k + 9) (fu (11 * k + 8))) (11 * k + 8) (fu (11 * k + 7))) (11 * k + 7) (fu (11 * k + 6))) (11 * k + 6) (fu (11 * k + 5))) (11 * k + 5) (fu (11 * k + 4))) (11 * k + 4) (fu (11 * k + 3))) (11 * k + 3) (fu (11 * k + 2))) (11 * k + 2) (fu (11 * k + 1))) (11 * k + 1) (fu (11 * k))) (11 * k) ou) ou := by
    have h10 : (vp_updL (vp_updL (vp_updL (vp_updL (vp_updL (vp_updL (vp_updL (vp_updL (vp_updL (vp_updL (vp_updL fu (11 * k + 10) (fu (11 * k + 9))) (11 * k + 9) (fu (11 * k + 8))) (11 * k + 8) (fu (11 * k + 7))) (11 * k + 7) (fu (11 * k + 6))) (11 * k + 6) (fu (11 * k + 5))) (11 * k + 5) (fu (11 * k + 4))) (11 * k + 4) (fu (11 * k + 3))) (11 * k + 3) (fu (11 * k + 2))) (11 * k + 2) (fu (11 * k + 1))) (11 * k + 1) (fu (11 * k))) (11 * k) ou) (11 * k + 10) = fu (11 * k + 9) := (ul_ne _ _ (by omega)).trans ((ul_ne _ _ (by omega)).trans ((ul_ne _ _ (by omega)).trans ((ul_ne _ _ (by omega)).trans ((ul_ne _ _ (by omega)).trans ((ul_ne _ _ (by omega)).trans ((ul_ne _ _ (by omega)).trans ((ul_ne _ _ (by omega)).trans ((ul_ne _ _ (by omega)).trans ((ul_ne _ _ (by omega)).trans (ul_eq _ _ _))))))))))
    have h9 : (vp_updL (vp_updL (vp_updL (vp_updL (vp_updL (vp_updL (vp_updL (vp_updL (vp_updL (vp_updL (vp_updL fu (11 * k + 10) (fu (11 * k + 9))) (11 * k + 9) (fu (11 * k + 8))) (11 * k + 8) (fu (11 * k + 7))) (11 * k + 7) (fu (11 * k + 6))) (11 * k + 6) (fu (11 * k + 5))) (11 * k + 5) (fu (11 * k + 4))) (11 * k + 4) (fu (11 * k + 3))) (11 * k + 3) (fu (11 * k + 2))) (11 * k + 2) (fu (11 * k + 1))) (11 * k + 1) (fu (11 * k))) (11 * k) ou) (11 * k + 9) = fu (11 * k + 8) := (ul_ne _ _ (by omega)).trans ((ul_ne _ _ (by omega)).trans ((ul_ne _ _ (by omega)).trans ((ul_ne _ _ (by omega)).trans ((ul_ne _ _ (by omega)).trans ((ul_ne _ _ (by omega)).trans ((ul_ne _ _ (by omega)).trans ((ul_ne _ _ (by omega)).trans ((ul_ne _ _ (by omega)).trans (ul_eq _ _ _)))))))))
    have h8 : (vp_updL (vp_updL (vp_updL (vp_updL (vp_updL (vp_updL (vp_updL (vp_updL (vp_updL (vp_updL (vp_updL fu (11 * k + 10) (fu (11 * k + 9))) (11 * k + 9) (fu (11 * k + 8))) (11 * k + 8) (fu (11 * k + 7))) (11 * k + 7) (fu (11 * k + 6))) (11 * k + 6) (fu (11 * k + 5))) (11 * k + 5) (fu (11 * k + 4))) (11 * k + 4) (fu (11 * k + 3))) (11 * k + 3) (fu (11 * k + 2))) (11 * k + 2) (fu (11 * k + 1))) (11 * k + 1) (fu (11 * k))) (11 * k) ou) (11 * k + 8) = fu (11 * k + 7) := (ul_ne _ _ (by omega)).trans ((ul_ne _ _ (by omega)).trans ((ul_ne _ _ (by omega)).trans ((ul_ne _ _ (by omega)).trans ((ul_ne _ _ (by omega)).trans ((ul_ne _ _ (by omega)).trans ((ul_ne _ _ (by omega)).trans ((ul_ne _ _ (by omega)).trans (ul_eq _ _ _))))))))
    have h7 : (vp_updL (vp_updL (vp_updL (vp_updL (vp_updL (vp_updL (vp_updL (vp_updL (vp_updL (vp_updL (vp_updL fu (11 * k + 10) (fu (11 * k + 9))) (11 * k + 9) (fu (11 * k + 8))) (11 * k + 8) (fu (11 * k + 7))) (11 * k + 7) (fu (11 * k + 6))) (11 * k + 6) (fu (11 * k + 5))) (11 * k + 5) (fu (11 * k + 4))) (11 * k + 4) (fu (11 * k + 3))) (11 * k + 3) (fu (11 * k + 2))) (11 * k + 2) (fu (11 * k + 1))) (11 * k + 1) (fu (11 * k))) (11 * k) ou) (11 * k + 7) = fu (11 * k + 6) := (ul_ne _ _ (by omega)).trans ((ul_ne _ _ (by omega)).trans ((ul_ne _ _ (by omega)).trans ((ul_ne _ _ (by omega)).trans ((ul_ne _ _ (by omega)).trans ((ul_ne _ _ (by omega)).trans ((ul_ne _ _ (by omega)).trans (ul_eq _ _ _)))))))
    have h6 : (vp_updL (vp_updL (vp_updL (vp_updL (vp_updL (vp_updL (vp_updL (vp_updL (vp_updL (vp_updL (vp_updL fu (11 * k + 10) (fu (11 * k + 9))) (11 * k + 9) (fu (11 * k + 8))) (11 * k + 8) (fu (11 * k + 7))) (11 * k + 7) (fu (11 * k + 6))) (11 * k + 6) (fu (11 * k + 5))) (11 * k + 5) (fu (11 * k + 4))) (11 * k + 4) (fu (11 * k + 3))) (11 * k + 3) (fu (11 * k + 2))) (11 * k + 2) (fu (11 * k + 1))) (11 * k + 1) (fu (11 * k))) (11 * k) ou) (11 * k + 6) = fu (11 * k + 5) := (ul_ne _ _ (by omega)).trans ((ul_ne _ _ (by omega)).trans ((ul_ne _ _ (by omega)).trans ((ul_ne _ _ (by omega)).trans ((ul_ne _ _ (by omega)).trans ((ul_ne _ _ (by omega)).trans (ul_eq _ _ _))))))
    have h5 : (vp_updL (vp_updL (vp_updL (vp_updL (vp_updL (vp_updL (vp_updL (vp_updL (vp_updL (vp_updL (vp_updL fu (11 * k + 10) (fu (11 * k + 9))) (11 * k + 9) (fu (11 * k + 8))) (11 * k + 8) (fu (11 * k + 7))) (11 * k + 7) (fu (11 * k + 6))) (11 * k + 6) (fu (11 * k + 5))) (11 * k + 5) (fu (11 * k + 4))) (11 * k + 4) (fu (11 * k + 3))) (11 * k + 3) (fu (11 * k + 2))) (11 * k + 2) (fu (11 * k + 1))) (11 * k + 1) (fu (11 * k))) (11 * k) ou) (11 * k + 5) = fu (11 * k + 4) := (ul_ne _ _ (by omega)).trans ((ul_ne _ _ (by omega)).trans ((ul_ne _ _ (by omega)).trans ((ul_ne _ _ (by omega)).trans ((ul_ne _ _ (by omega)).trans (ul_eq _ _ _)))))
    have h4 : (vp_updL (vp_updL (vp_updL (vp_updL (vp_updL (vp_updL (vp_updL (vp_updL (vp_updL (vp_updL (vp_updL fu (11 * k + 10) (fu (11 * k + 9))) (11 * k + 9) (fu (11 * k + 8))) (11 * k + 8) (fu (11 * k + 7))) (11 * k + 7) (fu (11 * k + 6))) (11 * k + 6) (fu (11 * k + 5))) (11 * k + 5) (fu (11 * k + 4))) (11 * k + 4) (fu (11 * k + 3))) (11 * k + 3) (fu (11 * k + 2))) (11 * k + 2) (fu (11 * k + 1))) (11 * k + 1) (fu (11 * k))) (11 * k) ou) (11 * k + 4) = fu (11 * k + 3) := (ul_ne _ _ (by omega)).trans ((ul_ne _ _ (by omega)).trans ((ul_ne _ _ (by omega)).trans ((ul_ne _ _ (by omega)).trans (ul_eq _ _ _))))
    have h3 : (vp_updL (vp_updL (vp_updL (vp_updL (vp_updL (vp_updL (vp_updL (vp_updL (vp_updL (vp_updL (vp_updL fu (11 * k + 10) (fu (11 * k + 9))) (11 * k + 9) (fu (11 * k + 8))) (11 * k + 8) (fu (11 * k + 7))) (11 * k + 7) (fu (11 * k + 6))) (11 * k + 6) (fu (11 * k + 5))) (11 * k + 5) (fu (11 * k + 4))) (11 * k + 4) (fu (11 * k + 3))) (11 * k + 3) (fu (11 * k + 2))) (11 * k + 2) (fu (11 * k + 1))) (11 * k + 1) (fu (11 * k))) (11 * k) ou) (11 * k + 3) = fu (11 * k + 2) := (ul_ne _ _ (by omega)).trans ((ul_ne _ _ (by omega)).trans ((ul_ne _ _ (by omega)).trans (ul_eq _ _ _)))
    have h2 : (vp_updL (vp_updL (vp_updL (vp_updL (vp_updL (vp_updL (vp_updL (vp_updL (vp_updL (vp_updL (vp_updL fu (11 * k + 10) (fu (11 * k + 9))) (11 * k + 9) (fu (11 * k + 8))) (11 * k + 8) (fu (11 * k + 7))) (11 * k + 7) (fu (11 * k + 6))) (11 * k + 6) (fu (11 * k + 5))) (11 * k + 5) (fu (11 * k + 4))) (11 * k + 4) (fu (11 * k + 3))) (11 * k + 3) (fu (11 * k + 2))) (11 * k + 2) (fu (11 * k + 1))) (11 * k + 1) (fu (11 * k))) (11 * k) ou) (11 * k + 2) = fu (11 * k + 1) := (ul_ne _ _ (by omega)).trans ((ul_ne _ _ (by omega)).trans (ul_eq _ _ _))
    have h1 : (vp_updL (vp_updL (vp_updL (vp_updL (vp_updL (vp_updL (vp_updL (vp_updL (vp_updL (vp_updL (vp_updL fu (11 * k + 10) (fu (11 * k + 9))) (11 * k + 9) (fu (11 * k + 8))) (11 * k + 8) (fu (11 * k + 7))) (11 * k + 7) (fu (11 * k + 6))) (11 * k + 6) (fu (11 * k + 5))) (11 * k + 5) (fu (11 * k + 4))) (11 * k + 4) (fu (11 * k + 3))) (11 * k + 3) (fu (11 * k + 2))) (11 * k + 2) (fu (11 * k + 1))) (11 * k + 1) (fu (11 * k))) (11 * k) ou) (11 * k + 1) = fu (11 * k) := (ul_ne _ _ (by omega)).trans (ul_eq _ _ _)
    refine ⟨ul_eq _ _ _, fun i hi => ?_⟩
    rcases (show i = 0 ∨ i = 1 ∨ i = 2 ∨ i = 3 ∨ i = 4 ∨ i = 5 ∨ i = 6 ∨ i = 7 ∨ i = 8 ∨ i = 9 by omega) with rfl | rfl | rfl | rfl | rfl | rfl | rfl | rfl | rfl | rfl
    · exact h1
    · exact h2
    · exact h3
    · exact h4
    · exact h5
    · exact h6
    · exact h7
    · exact h8
    · exact h9
    · exact h10
  obtain ⟨d, hd, h3, hpm⟩ := hme (vp_updL (vp_updL fw (20 * k + 14) (0 : Int64)) (20 * k + 15) (0 : Int64)) (vp_updL (vp_updL (vp_updL (vp_updL (vp_updL (vp_updL (vp_updL (vp_updL (vp_updL (vp_updL (vp_updL fu (11 * k + 10) (fu (11 * k + 9))) (11 * k + 9) (fu (11 * k + 8))) (11 * k + 8) (fu (11 * k + 7))) (11 * k + 7) (fu (11 * k + 6))) (11 * k + 6) (fu (11 * k + 5))) (11 * k + 5) (fu (11 * k + 4))) (11 * k + 4) (fu (11 * k + 3))) (11 * k + 3) (fu (11 * k + 2))) (11 * k + 2) (fu (11 * k + 1))) (11 * k + 1) (fu (11 * k))) (11 * k) ou) hFU (by intro i hi; repeat rw [ul_ne _ _ (by omega)])
  refine lw_Rl2 (wl := [zAI cI t6 3 fm, zAI cI t7 3 fh, zAI cI t8 3 fs, zAJ cJ t9 3 fy, zAJ cJ t10 3 fp]) (wr := ([zAJ cJ adW 60 (vp_updL (vp_updL fw (20 * k + 14) (0 : Int64)) (20 * k + 15) (0 : Int64)), zAJ cJ adU 33 (vp_updL (vp_updL (vp_updL (vp_updL (vp_updL (vp_updL (vp_updL (vp_updL (vp_updL (vp_updL (vp_updL fu (11 * k + 10) (fu (11 * k + 9))) (11 * k + 9) (fu (11 * k + 8))) (11 * k + 8) (fu (11 * k + 7))) (11 * k + 7) (fu (11 * k + 6))) (11 * k + 6) (fu (11 * k + 5))) (11 * k + 5) (fu (11 * k + 4))) (11 * k + 4) (fu (11 * k + 3))) (11 * k + 3) (fu (11 * k + 2))) (11 * k + 2) (fu (11 * k + 1))) (11 * k + 1) (fu (11 * k))) (11 * k) ou), zAJ cJ adG 60 fg, zAI cI adN 6 fn] ++ wB cI cJ cO adB adA lf bs a U)) (wq := ([zAJ cJ adW 60 (vp_updL (vp_updL fw (20 * k + 14) (0 : Int64)) (20 * k + 15) (0 : Int64)), zAJ cJ adU 33 (vp_updL (vp_updL (vp_updL (vp_updL (vp_updL (vp_updL (vp_updL (vp_updL (vp_updL (vp_updL (vp_updL fu (11 * k + 10) (fu (11 * k + 9))) (11 * k + 9) (fu (11 * k + 8))) (11 * k + 8) (fu (11 * k + 7))) (11 * k + 7) (fu (11 * k + 6))) (11 * k + 6) (fu (11 * k + 5))) (11 * k + 5) (fu (11 * k + 4))) (11 * k + 4) (fu (11 * k + 3))) (11 * k + 3) (fu (11 * k + 2))) (11 * k + 2) (fu (11 * k + 1))) (11 * k + 1) (fu (11 * k))) (11 * k) ou), zAJ cJ adG 60 fg, zAI cI adN 6 fn] ++ wB cI cJ cO adB adA lf bs a U)) (rv := (lx_next (vp_updL (vp_updL fw (20 * k + 14) (0 : Int64)) (20 * k + 15) (0 : Int64)) (vp_updL (vp_updL (vp_updL (vp_updL (vp_updL (vp_updL (vp_updL (vp_updL (vp_updL (vp_updL (vp_updL fu (11 * k + 10) (fu (11 * k + 9))) (11 * k + 9) (fu (11 * k + 8))) (11 * k + 8) (fu (11 * k + 7))) (11 * k + 7) (fu (11 * k + 6))) (11 * k + 6) (fu (11 * k + 5))) (11 * k + 5) (fu (11 * k + 4))) (11 * k + 4) (fu (11 * k + 3))) (11 * k + 3) (fu (11 * k + 2))) (11 * k + 2) (fu (11 * k + 1))) (11 * k + 1) (fu (11 * k))) (11 * k) ou) k d (yl_pme (T k)))) (rest := [.long (yl_pme (U k))]) (va_runS (As := [.ref adW, .ref adU, .int (nI k), .long (yl_pme (T k))]) (rest := [.long (yl_pme (U k))]) ⟨hx, hb, hml, hown, hts⟩ (c_L_next l dC dI cI cJ cZ cO adB adA adW adU adG adN lf a bs U (vp_updL (vp_updL fw (20 * k + 14) (0 : Int64)) (20 * k + 15) (0 : Int64)) (vp_updL (vp_updL (vp_updL (vp_updL (vp_updL (vp_updL (vp_updL (vp_updL (vp_updL (vp_updL (vp_updL fu (11 * k + 10) (fu (11 * k + 9))) (11 * k + 9) (fu (11 * k + 8))) (11 * k + 8) (fu (11 * k + 7))) (11 * k + 7) (fu (11 * k + 6))) (11 * k + 6) (fu (11 * k + 5))) (11 * k + 5) (fu (11 * k + 4))) (11 * k + 4) (fu (11 * k + 3))) (11 * k + 3) (fu (11 * k + 2))) (11 * k + 2) (fu (11 * k + 1))) (11 * k + 1) (fu (11 * k))) (11 * k) ou) fg fn k (yl_pme (T k)) d _ hlf hk hd h3) (va_cwS 4 hts (gd_S wd_4_25 wd_4_26 wd_1_0 wd_4_27) rfl rfl rfl (by decide +kernel) ⟨Nat.le_trans (Nat.le_of_ble_eq_true rfl) hR.1, Nat.le_trans (Nat.le_of_ble_eq_true rfl) hR.2⟩) (lw_S2 (wl := [zAI cI t6 3 fm, zAI cI t7 3 fh, zAI cI t8 3 fs, zAJ cJ t9 3 fy, zAJ cJ t10 3 fp]) gN_c (fun U _ hW => gN_w hW hG) hK (List.Perm.refl _) hP hD) rfl rfl hl.1 rfl (lv_room (Nat.le_of_ble_eq_true rfl)) dL_samples_733 hcs) (List.Perm.refl _) (List.Perm.refl _) hP hD hS hA (fun H locs hP hD hS => ?_)
  have hP : va_P (dC, dI) vwCl ([zAI cI t6 3 fm, zAI cI t7 3 fh, zAI cI t8 3 fs, zAJ cJ t9 3 fy, zAJ cJ t10 3 fp, zAJ cJ adW 60 (vp_updL (vp_updL fw (20 * k + 14) (0 : Int64)) (20 * k + 15) (0 : Int64)), zAJ cJ adU 33 (vp_updL (vp_updL (vp_updL (vp_updL (vp_updL (vp_updL (vp_updL (vp_updL (vp_updL (vp_updL (vp_updL fu (11 * k + 10) (fu (11 * k + 9))) (11 * k + 9) (fu (11 * k + 8))) (11 * k + 8) (fu (11 * k + 7))) (11 * k + 7) (fu (11 * k + 6))) (11 * k + 6) (fu (11 * k + 5))) (11 * k + 5) (fu (11 * k + 4))) (11 * k + 4) (fu (11 * k + 3))) (11 * k + 3) (fu (11 * k + 2))) (11 * k + 2) (fu (11 * k + 1))) (11 * k + 1) (fu (11 * k))) (11 * k) ou), zAJ cJ adG 60 fg, zAI cI adN 6 fn] ++ wB cI cJ cO adB adA lf bs a U) H := hP
  have hD : va_D A ([zAI cI t6 3 fm, zAI cI t7 3 fh, zAI cI t8 3 fs, zAJ cJ t9 3 fy, zAJ cJ t10 3 fp, zAJ cJ adW 60 (vp_updL (vp_updL fw (20 * k + 14) (0 : Int64)) (20 * k + 15) (0 : Int64)), zAJ cJ adU 33 (vp_updL (vp_updL (vp_updL (vp_updL (vp_updL (vp_updL (vp_updL (vp_updL (vp_updL (vp_updL (vp_updL fu (11 * k + 10) (fu (11 * k + 9))) (11 * k + 9) (fu (11 * k + 8))) (11 * k + 8) (fu (11 * k + 7))) (11 * k + 7) (fu (11 * k + 6))) (11 * k + 6) (fu (11 * k + 5))) (11 * k + 5) (fu (11 * k + 4))) (11 * k + 4) (fu (11 * k + 3))) (11 * k + 3) (fu (11 * k + 2))) (11 * k + 2) (fu (11 * k + 1))) (11 * k + 1) (fu (11 * k))) (11 * k) ou), zAJ cJ adG 60 fg, zAI cI adN 6 fn] ++ wB cI cJ cO adB adA lf bs a U) := hD
  refine hh_cne (tgt := 744) hx hb dL_samples_736 dL_samples_737 (by decide) (fun h9 => absurd (hpm) h9) (fun _ => ?_)
  refine lv_iconst (v := 1) hx hb dL_samples_740 (by decide) ?_
  refine lv_goto (tgt := 745) hx hb dL_samples_741 (by decide) ?_
  refine lv_istore (lv' := [(11, .int (1 : Int32)), (24, .int (nI (11 * k))), (23, .int (0 : Int32)), (18, .long ou), (13, .int (nI (20 * k))), (12, .int (nI k)), (0, .ref adB), (1, .ref adW), (2, .ref adU), (3, .ref adG), (4, .ref adN), (5, .int sa), (6, .ref t6), (7, .ref t7), (8, .ref t8), (9, .ref t9), (10, .ref t10)]) hx hb dL_samples_745 hl (by decide) rfl (fun ls hl => ?_)
  refine lv_aload_n hx hb dL_samples_747 rfl (lv_at hl 7 rfl) ?_
  refine lv_iload hx hb dL_samples_748 (lv_at hl 4 rfl) ?_
  refine lv_bipush (v := 10) hx hb dL_samples_750 (by decide) ?_
  refine lv_iadd hx hb dL_samples_752 ?_
  refine hh_seti (y := (nI (20 * k + 10))) (lwAdd (a := 20 * k) (b := 10) (by omega)) ?_
  refine lv_aload hx hb dL_samples_753 (lv_at hl 15 rfl) ?_
  refine lv_iload hx hb dL_samples_755 (lv_at hl 5 rfl) ?_
  refine lr_ll hx hb hK hP 3 1 (e0 := k) rfl rfl (by omega) (by decide) dL_samples_757 ?_
  refine hh_setl (y := (yl_pme (T k))) ((hfy k (by omega)).symm) ?_
  refine lr_ls hx hb hK hP hD hS 5 1 (e0 := 20 * k + 10) rfl rfl (by omega) (by decide) dL_samples_758 (w1 := ([zAI cI t6 3 fm, zAI cI t7 3 fh, zAI cI t8 3 fs, zAJ cJ t9 3 fy, zAJ cJ t10 3 fp, zAJ cJ adW 60 (vp_updL (vp_updL (vp_updL fw (20 * k + 14) (0 : Int64)) (20 * k + 15) (0 : Int64)) (20 * k + 10) (yl_pme (T k))), zAJ cJ adU 33 (vp_updL (vp_updL (vp_updL (vp_updL (vp_updL (vp_updL (vp_updL (vp_updL (vp_updL (vp_updL (vp_updL fu (11 * k + 10) (fu (11 * k + 9))) (11 * k + 9) (fu (11 * k + 8))) (11 * k + 8) (fu (11 * k + 7))) (11 * k + 7) (fu (11 * k + 6))) (11 * k + 6) (fu (11 * k + 5))) (11 * k + 5) (fu (11 * k + 4))) (11 * k + 4) (fu (11 * k + 3))) (11 * k + 3) (fu (11 * k + 2))) (11 * k + 2) (fu (11 * k + 1))) (11 * k + 1) (fu (11 * k))) (11 * k) ou), zAJ cJ adG 60 fg, zAI cI adN 6 fn] ++ wB cI cJ cO adB adA lf bs a U)) rfl (fun H locs hP hD hS => ?_)
  refine lv_iinc (v := (nI (k + 1))) (lv' := [(12, .int (nI (k + 1))), (11, .int (1 : Int32)), (24, .int (nI (11 * k))), (23, .int (0 : Int32)), (18, .long ou), (13, .int (nI (20 * k))), (0, .ref adB), (1, .ref adW), (2, .ref adU), (3, .ref adG), (4, .ref adN), (5, .int sa), (6, .ref t6), (7, .ref t7), (8, .ref t8), (9, .ref t9), (10, .ref t10)]) hx hb dL_samples_759 hl (k := 5) rfl (nI_add (k) 1) (by decide) rfl (fun ls hl => ?_)
  refine lv_goto (tgt := 117) hx hb dL_samples_762 (by decide) ?_
  have hFW : FW2 k fw (vp_updL (vp_updL (vp_updL fw (20 * k + 14) (0 : Int64)) (20 * k + 15) (0 : Int64)) (20 * k + 10) (yl_pme (T k))) (yl_pme (T k)) 0 := ⟨by intro i hi h10 h14 h15; repeat rw [ul_ne _ _ (by omega)], ul_eq _ _ _, (ul_ne _ _ (by omega)).trans ((ul_ne _ _ (by omega)).trans (ul_eq _ _ _)), (ul_ne _ _ (by omega)).trans (ul_eq _ _ _)⟩
  exact kk (vp_updL (vp_updL (vp_updL fw (20 * k + 14) (0 : Int64)) (20 * k + 15) (0 : Int64)) (20 * k + 10) (yl_pme (T k))) (vp_updL (vp_updL (vp_updL (vp_updL (vp_updL (vp_updL (vp_updL (vp_updL (vp_updL (vp_updL (vp_updL fu (11 * k + 10) (fu (11 * k + 9))) (11 * k + 9) (fu (11 * k + 8))) (11 * k + 8) (fu (11 * k + 7))) (11 * k + 7) (fu (11 * k + 6))) (11 * k + 6) (fu (11 * k + 5))) (11 * k + 5) (fu (11 * k + 4))) (11 * k + 4) (fu (11 * k + 3))) (11 * k + 3) (fu (11 * k + 2))) (11 * k + 2) (fu (11 * k + 1))) (11 * k + 1) (fu (11 * k))) (11 * k) ou) fn H locs ls hFW hFU (by intro i hi; repeat rw [ul_ne _ _ (by omega)]) (by intro i hi; repeat rw [ul_ne _ _ (by omega)]) rfl hP hD hS (lv_sub hl [0, 1, 6, 7, 8, 9, 10, 11, 12, 13, 14, 15, 16] rfl)
set_option maxHeartbeats 4000000 in
set_option maxRecDepth 100000 in
theorem sm_tail1 (K : FX p s m c cL_samples 25 args (dC, dI) cI cJ cZ cO lf a) {t6 t7 t8 t9 t10 : Nat} {fm fh fs : Nat → Int32} {fy fp : Nat → Int64} {sa : Int32} {ou : Int64} (hk : k < 3) (hfy : ∀ j : Nat, j < 3 → fy j = yl_pme (T j)) (hme : ∀ fwm fu2 : Nat → Int64, FU2 k fu fu2 ou → (∀ i : Nat, i < 14 → fwm (20 * k + i) = fw (20 * k + i)) → ∃ d : Nat, d < 11 ∧ (fwm (20 * k + 3)).toInt32 = nI d ∧ yl_pme (U k) = lx_next fwm fu2 k d (yl_pme (T k))) (hR : 2 ≤ R.frames ∧ 52 ≤ R.locals) (hcs : cells ≤ R.cells ∧ slots ≤ R.slots) (hP : va_P (dC, dI) vwCl ([zAI cI t6 3 fm, zAI cI t7 3 fh, zAI cI t8 3 fs, zAJ cJ t9 3 fy, zAJ cJ t10 3 fp, zAJ cJ adW 60 fw, zAJ cJ adU 33 fu, zAJ cJ adG 60 fg, zAI cI adN 6 fn] ++ wB cI cJ cO adB adA lf bs a U) H) (hD : va_D A ([zAI cI t6 3 fm, zAI cI t7 3 fh, zAI cI t8 3 fs, zAJ cJ t9 3 fy, zAJ cJ t10 3 fp, zAJ cJ adW 60 fw, zAJ cJ adU 33 fu, zAJ cJ adG 60 fg, zAI cI adN 6 fn] ++ wB cI cJ cO adB adA lf bs a U)) (hS : va_S A s.heap H locs) (hA : ∀ q : Nat, s.heap.size ≤ q → A q) (hl : lv_has ls 25 [(23, .int (1 : Int32)), (18, .long ou), (13, .int (nI (20 * k))), (12, .int (nI k)), (11, .int (1 : Int32)), (0, .ref adB), (1, .ref adW), (2, .ref adU), (3, .ref adG), (4, .ref adN), (5, .int sa), (6, .ref t6), (7, .ref t7), (8, .ref t8), (9, .ref t9), (10, .ref t10)])
    (kk : ∀ (fw2 fu2 : Nat → Int64) (fn2 : Nat → Int32) (H : Heap) (locs : List Loc) (ls : Array Slot), FW2 k fw fw2 (yl_pme (T k)) (fw (20 * k + 14)) → FU2 k fu fu2 ou → (∀ i : Nat, i < 20 * k ∨ 20 * k + 20 ≤ i → fw2 i = fw i) → (∀ i : Nat, i < 11 * k ∨ 11 * k + 11 ≤ i → fu2 i = fu i) → fn2 = fn → va_P (dC, dI) vwCl ([zAI cI t6 3 fm, zAI cI t7 3 fh, zAI cI t8 3 fs, zAJ cJ t9 3 fy, zAJ cJ t10 3 fp, zAJ cJ adW 60 fw2, zAJ cJ adU 33 fu2, zAJ cJ adG 60 fg, zAI cI adN 6 fn2] ++ wB cI cJ cO adB adA lf bs a U) H → va_D A ([zAI cI t6 3 fm, zAI cI t7 3 fh, zAI cI t8 3 fs, zAJ cJ t9 3 fy, zAJ cJ t10 3 fp, zAJ cJ adW 60 fw2, zAJ cJ adU 33 fu2, zAJ cJ adG 60 fg, zAI cI adN 6 fn2] ++ wB cI cJ cO adB adA lf bs a U) → va_S A s.heap H locs → lv_has ls 25 [(12, .int (nI (k + 1))), (11, .int (1 : Int32)), (0, .ref adB), (1, .ref adW), (2, .ref adU), (3, .ref adG), (4, .ref adN), (5, .int sa), (6, .ref t6), (7, .ref t7), (8, .ref t8), (9, .ref t9), (10, .ref t10)] → W p l e R s m args below meth c H locs cells slots Q (F0 m 117 ls [])) : W p l e R s m args below meth c H locs cells slots Q (F0 m 637 ls []) := by
  obtain ⟨hx, hb, hml, hown, hts, hG, hK, hlf⟩ := id K
  refine lv_aload_n hx hb dL_samples_637 rfl (lv_at hl 6 rfl) ?_
  refine lv_iload hx hb dL_samples_638 (lv_at hl 2 rfl) ?_
  refine lv_bipush (v := 14) hx hb dL_samples_640 (by decide) ?_
  refine lv_iadd hx hb dL_samples_642 ?_
  refine hh_seti (y := (nI (20 * k + 14))) (lwAdd (a := 20 * k) (b := 14) (by omega)) ?_
  refine lv_iload hx hb dL_samples_643 (lv_at hl 0 rfl) ?_
  refine lv_if_eq (tgt := 658) hx hb dL_samples_645 (by decide) (fun h9 => absurd h9 (by decide)) (fun _ => ?_)
  refine lv_aload_n hx hb dL_samples_648 rfl (lv_at hl 6 rfl) ?_
  refine lv_iload hx hb dL_samples_649 (lv_at hl 2 rfl) ?_
  refine lv_bipush (v := 14) hx hb dL_samples_651 (by decide) ?_
  refine lv_iadd hx hb dL_samples_653 ?_
  refine hh_seti (y := (nI (20 * k + 14))) (lwAdd (a := 20 * k) (b := 14) (by omega)) ?_
  refine lr_ll hx hb hK hP 5 1 (e0 := 20 * k + 14) rfl rfl (by omega) (by decide) dL_samples_654 ?_
  refine lv_goto (tgt := 659) hx hb dL_samples_655 (by decide) ?_
  refine lr_ls hx hb hK hP hD hS 5 1 (e0 := 20 * k + 14) rfl rfl (by omega) (by decide) dL_samples_659 (w1 := ([zAI cI t6 3 fm, zAI cI t7 3 fh, zAI cI t8 3 fs, zAJ cJ t9 3 fy, zAJ cJ t10 3 fp, zAJ cJ adW 60 (vp_updL fw (20 * k + 14) (fw (20 * k + 14))), zAJ cJ adU 33 fu, zAJ cJ adG 60 fg, zAI cI adN 6 fn] ++ wB cI cJ cO adB adA lf bs a U)) rfl (fun H locs hP hD hS => ?_)
  refine lv_aload_n hx hb dL_samples_660 rfl (lv_at hl 6 rfl) ?_
  refine lv_iload hx hb dL_samples_661 (lv_at hl 2 rfl) ?_
  refine lv_bipush (v := 15) hx hb dL_samples_663 (by decide) ?_
  refine lv_iadd hx hb dL_samples_665 ?_
  refine hh_seti (y := (nI (20 * k + 15))) (lwAdd (a := 20 * k) (b := 15) (by omega)) ?_
  refine lv_lconst (v := 0) hx hb dL_samples_666 (by decide) ?_
  refine lr_ls hx hb hK hP hD hS 5 1 (e0 := 20 * k + 15) rfl rfl (by omega) (by decide) dL_samples_667 (w1 := ([zAI cI t6 3 fm, zAI cI t7 3 fh, zAI cI t8 3 fs, zAJ cJ t9 3 fy, zAJ cJ t10 3 fp, zAJ cJ adW 60 (vp_updL (vp_updL fw (20 * k + 14) (fw (20 * k + 14))) (20 * k + 15) (0 : Int64)), zAJ cJ adU 33 fu, zAJ cJ adG 60 fg, zAI cI adN 6 fn] ++ wB cI cJ cO adB adA lf bs a U)) rfl (fun H locs hP hD hS => ?_)
  refine lv_bipush (v := 11) hx hb dL_samples_668 (by decide) ?_
  refine lv_iload hx hb dL_samples_670 (lv_at hl 3 rfl) ?_
  refine lv_imul hx hb dL_samples_672 ?_
  refine hh_seti (y := (nI (11 * k))) (lwMul (a := 11) (b := k) (by omega)) ?_
  refine lv_bipush (v := 10) hx hb dL_samples_673 (by decide) ?_
  refine lv_iadd hx hb dL_samples_675 ?_
  refine hh_seti (y := (nI (11 * k + 10))) (lwAdd (a := 11 * k) (b := 10) (by omega)) ?_
  refine lv_istore (lv' := [(24, .int (nI (11 * k + 10))), (23, .int (1 : Int32)), (18, .long ou), (13, .int (nI (20 * k))), (12, .int (nI k)), (11, .int (1 : Int32)), (0, .ref adB), (1, .ref adW), (2, .ref adU), (3, .ref adG), (4, .ref adN), (5, .int sa), (6, .ref t6), (7, .ref t7), (8, .ref t8), (9, .ref t9), (10, .ref t10)]) hx hb dL_samples_676 hl (by decide) rfl (fun ls hl => ?_)
  refine lv_iload hx hb dL_samples_678 (lv_at hl 0 rfl) ?_
  refine lv_bipush (v := 11) hx hb dL_samples_680 (by decide) ?_
  refine lv_iload hx hb dL_samples_682 (lv_at hl 4 rfl) ?_
  refine lv_imul hx hb dL_samples_684 ?_
  refine hh_seti (y := (nI (11 * k))) (lwMul (a := 11) (b := k) (by omega)) ?_
  refine lv_icmp_le (tgt := 704) hx hb dL_samples_685 (by decide) (fun h9 => absurd h9 (fun q => absurd ((nI_leI (a := 11 * k + 10) (b := 11 * k) (by omega) (by omega)).mp q) (by omega))) (fun _ => ?_)
  refine lv_aload_n hx hb dL_samples_688 rfl (lv_at hl 8 rfl) ?_
  refine lv_iload hx hb dL_samples_689 (lv_at hl 0 rfl) ?_
  refine lv_aload_n hx hb dL_samples_691 rfl (lv_at hl 8 rfl) ?_
  refine lv_iload hx hb dL_samples_692 (lv_at hl 0 rfl) ?_
  refine lv_iconst (v := 1) hx hb dL_samples_694 (by decide) ?_
  refine lv_isub hx hb dL_samples_695 ?_
  refine hh_seti (y := (nI (11 * k + 9))) (lwSub (a := 11 * k + 10) (b := 1) (by omega)) ?_
  refine lr_ll hx hb hK hP 6 1 (e0 := 11 * k + 9) rfl rfl (by omega) (by decide) dL_samples_696 ?_
  refine lr_ls hx hb hK hP hD hS 6 1 (e0 := 11 * k + 10) rfl rfl (by omega) (by decide) dL_samples_697 (w1 := ([zAI cI t6 3 fm, zAI cI t7 3 fh, zAI cI t8 3 fs, zAJ cJ t9 3 fy, zAJ cJ t10 3 fp, zAJ cJ adW 60 (vp_updL (vp_updL fw (20 * k + 14) (fw (20 * k + 14))) (20 * k + 15) (0 : Int64)), zAJ cJ adU 33 (vp_updL fu (11 * k + 10) (fu (11 * k + 9))), zAJ cJ adG 60 fg, zAI cI adN 6 fn] ++ wB cI cJ cO adB adA lf bs a U)) rfl (fun H locs hP hD hS => ?_)
  refine lv_iinc (v := (nI (11 * k + 9))) (lv' := [(24, .int (nI (11 * k + 9))), (23, .int (1 : Int32)), (18, .long ou), (13, .int (nI (20 * k))), (12, .int (nI k)), (11, .int (1 : Int32)), (0, .ref adB), (1, .ref adW), (2, .ref adU), (3, .ref adG), (4, .ref adN), (5, .int sa), (6, .ref t6), (7, .ref t7), (8, .ref t8), (9, .ref t9), (10, .ref t10)]) hx hb dL_samples_698 hl (k := 0) rfl (lwDec (by omega)) (by decide) rfl (fun ls hl => ?_)
  refine lv_goto (tgt := 678) hx hb dL_samples_701 (by decide) ?_
  refine lv_iload hx hb dL_samples_678 (lv_at hl 0 rfl) ?_
  refine lv_bipush (v := 11) hx hb dL_samples_680 (by decide) ?_
  refine lv_iload hx hb dL_samples_682 (lv_at hl 4 rfl) ?_
  refine lv_imul hx hb dL_samples_684 ?_
  refine hh_seti (y := (nI (11 * k))) (lwMul (a := 11) (b := k) (by omega)) ?_
  refine lv_icmp_le (tgt := 704) hx hb dL_samples_685 (by decide) (fun h9 => absurd h9 (fun q => absurd ((nI_leI (a := 11 * k + 9) (b := 11 * k) (by omega) (by omega)).mp q) (by omega))) (fun _ => ?_)
  refine lv_aload_n hx hb dL_samples_688 rfl (lv_at hl 8 rfl) ?_
  refine lv_iload hx hb dL_samples_689 (lv_at hl 0 rfl) ?_
  refine lv_aload_n hx hb dL_samples_691 rfl (lv_at hl 8 rfl) ?_
  refine lv_iload hx hb dL_samples_692 (lv_at hl 0 rfl) ?_
  refine lv_iconst (v := 1) hx hb dL_samples_694 (by decide) ?_
  refine lv_isub hx hb dL_samples_695 ?_
  refine hh_seti (y := (nI (11 * k + 8))) (lwSub (a := 11 * k + 9) (b := 1) (by omega)) ?_
  refine lr_ll hx hb hK hP 6 1 (e0 := 11 * k + 8) rfl rfl (by omega) (by decide) dL_samples_696 ?_
  refine hh_setl (y := (fu (11 * k + 8))) ((ul_ne _ _ (by omega)).symm) ?_
  refine lr_ls hx hb hK hP hD hS 6 1 (e0 := 11 * k + 9) rfl rfl (by omega) (by decide) dL_samples_697 (w1 := ([zAI cI t6 3 fm, zAI cI t7 3 fh, zAI cI t8 3 fs, zAJ cJ t9 3 fy, zAJ cJ t10 3 fp, zAJ cJ adW 60 (vp_updL (vp_updL fw (20 * k + 14) (fw (20 * k + 14))) (20 * k + 15) (0 : Int64)), zAJ cJ adU 33 (vp_updL (vp_updL fu (11 * k + 10) (fu (11 * k + 9))) (11 * k + 9) (fu (11 * k + 8))), zAJ cJ adG 60 fg, zAI cI adN 6 fn] ++ wB cI cJ cO adB adA lf bs a U)) rfl (fun H locs hP hD hS => ?_)
  refine lv_iinc (v := (nI (11 * k + 8))) (lv' := [(24, .int (nI (11 * k + 8))), (23, .int (1 : Int32)), (18, .long ou), (13, .int (nI (20 * k))), (12, .int (nI k)), (11, .int (1 : Int32)), (0, .ref adB), (1, .ref adW), (2, .ref adU), (3, .ref adG), (4, .ref adN), (5, .int sa), (6, .ref t6), (7, .ref t7), (8, .ref t8), (9, .ref t9), (10, .ref t10)]) hx hb dL_samples_698 hl (k := 0) rfl (lwDec (by omega)) (by decide) rfl (fun ls hl => ?_)
  refine lv_goto (tgt := 678) hx hb dL_samples_701 (by decide) ?_
  refine lv_iload hx hb dL_samples_678 (lv_at hl 0 rfl) ?_
  refine lv_bipush (v := 11) hx hb dL_samples_680 (by decide) ?_
  refine lv_iload hx hb dL_samples_682 (lv_at hl 4 rfl) ?_
  refine lv_imul hx hb dL_samples_684 ?_
  refine hh_seti (y := (nI (11 * k))) (lwMul (a := 11) (b := k) (by omega)) ?_
  refine lv_icmp_le (tgt := 704) hx hb dL_samples_685 (by decide) (fun h9 => absurd h9 (fun q => absurd ((nI_leI (a := 11 * k + 8) (b := 11 * k) (by omega) (by omega)).mp q) (by omega))) (fun _ => ?_)
  refine lv_aload_n hx hb dL_samples_688 rfl (lv_at hl 8 rfl) ?_
  refine lv_iload hx hb dL_samples_689 (lv_at hl 0 rfl) ?_
  refine lv_aload_n hx hb dL_samples_691 rfl (lv_at hl 8 rfl) ?_
  refine lv_iload hx hb dL_samples_692 (lv_at hl 0 rfl) ?_
  refine lv_iconst (v := 1) hx hb dL_samples_694 (by decide) ?_
  refine lv_isub hx hb dL_samples_695 ?_
  refine hh_seti (y := (nI (11 * k + 7))) (lwSub (a := 11 * k + 8) (b := 1) (by omega)) ?_
  refine lr_ll hx hb hK hP 6 1 (e0 := 11 * k + 7) rfl rfl (by omega) (by decide) dL_samples_696 ?_
  refine hh_setl (y := (fu (11 * k + 7))) (((ul_ne _ _ (by omega)).trans (ul_ne _ _ (by omega))).symm) ?_
  refine lr_ls hx hb hK hP hD hS 6 1 (e0 := 11 * k + 8) rfl rfl (by omega) (by decide) dL_samples_697 (w1 := ([zAI cI t6 3 fm, zAI cI t7 3 fh, zAI cI t8 3 fs, zAJ cJ t9 3 fy, zAJ cJ t10 3 fp, zAJ cJ adW 60 (vp_updL (vp_updL fw (20 * k + 14) (fw (20 * k + 14))) (20 * k + 15) (0 : Int64)), zAJ cJ adU 33 (vp_updL (vp_updL (vp_updL fu (11 * k + 10) (fu (11 * k + 9))) (11 * k + 9) (fu (11 * k + 8))) (11 * k + 8) (fu (11 * k + 7))), zAJ cJ adG 60 fg, zAI cI adN 6 fn] ++ wB cI cJ cO adB adA lf bs a U)) rfl (fun H locs hP hD hS => ?_)
  refine lv_iinc (v := (nI (11 * k + 7))) (lv' := [(24, .int (nI (11 * k + 7))), (23, .int (1 : Int32)), (18, .long ou), (13, .int (nI (20 * k))), (12, .int (nI k)), (11, .int (1 : Int32)), (0, .ref adB), (1, .ref adW), (2, .ref adU), (3, .ref adG), (4, .ref adN), (5, .int sa), (6, .ref t6), (7, .ref t7), (8, .ref t8), (9, .ref t9), (10, .ref t10)]) hx hb dL_samples_698 hl (k := 0) rfl (lwDec (by omega)) (by decide) rfl (fun ls hl => ?_)
  refine lv_goto (tgt := 678) hx hb dL_samples_701 (by decide) ?_
  refine lv_iload hx hb dL_samples_678 (lv_at hl 0 rfl) ?_
  refine lv_bipush (v := 11) hx hb dL_samples_680 (by decide) ?_
  refine lv_iload hx hb dL_samples_682 (lv_at hl 4 rfl) ?_
  refine lv_imul hx hb dL_samples_684 ?_
  refine hh_seti (y := (nI (11 * k))) (lwMul (a := 11) (b := k) (by omega)) ?_
  refine lv_icmp_le (tgt := 704) hx hb dL_samples_685 (by decide) (fun h9 => absurd h9 (fun q => absurd ((nI_leI (a := 11 * k + 7) (b := 11 * k) (by omega) (by omega)).mp q) (by omega))) (fun _ => ?_)
  refine lv_aload_n hx hb dL_samples_688 rfl (lv_at hl 8 rfl) ?_
  refine lv_iload hx hb dL_samples_689 (lv_at hl 0 rfl) ?_
  refine lv_aload_n hx hb dL_samples_691 rfl (lv_at hl 8 rfl) ?_
  refine lv_iload hx hb dL_samples_692 (lv_at hl 0 rfl) ?_
  refine lv_iconst (v := 1) hx hb dL_samples_694 (by decide) ?_
  refine lv_isub hx hb dL_samples_695 ?_
  refine hh_seti (y := (nI (11 * k + 6))) (lwSub (a := 11 * k + 7) (b := 1) (by omega)) ?_
  refine lr_ll hx hb hK hP 6 1 (e0 := 11 * k + 6) rfl rfl (by omega) (by decide) dL_samples_696 ?_
  refine hh_setl (y := (fu (11 * k + 6))) (((ul_ne _ _ (by omega)).trans ((ul_ne _ _ (by omega)).trans (ul_ne _ _ (by omega)))).symm) ?_
  refine lr_ls hx hb hK hP hD hS 6 1 (e0 := 11 * k + 7) rfl rfl (by omega) (by decide) dL_samples_697 (w1 := ([zAI cI t6 3 fm, zAI cI t7 3 fh, zAI cI t8 3 fs, zAJ cJ t9 3 fy, zAJ cJ t10 3 fp, zAJ cJ adW 60 (vp_updL (vp_updL fw (20 * k + 14) (fw (20 * k + 14))) (20 * k + 15) (0 : Int64)), zAJ cJ adU 33 (vp_updL (vp_updL (vp_updL (vp_updL fu (11 * k + 10) (fu (11 * k + 9))) (11 * k + 9) (fu (11 * k + 8))) (11 * k + 8) (fu (11 * k + 7))) (11 * k + 7) (fu (11 * k + 6))), zAJ cJ adG 60 fg, zAI cI adN 6 fn] ++ wB cI cJ cO adB adA lf bs a U)) rfl (fun H locs hP hD hS => ?_)
  refine lv_iinc (v := (nI (11 * k + 6))) (lv' := [(24, .int (nI (11 * k + 6))), (23, .int (1 : Int32)), (18, .long ou), (13, .int (nI (20 * k))), (12, .int (nI k)), (11, .int (1 : Int32)), (0, .ref adB), (1, .ref adW), (2, .ref adU), (3, .ref adG), (4, .ref adN), (5, .int sa), (6, .ref t6), (7, .ref t7), (8, .ref t8), (9, .ref t9), (10, .ref t10)]) hx hb dL_samples_698 hl (k := 0) rfl (lwDec (by omega)) (by decide) rfl (fun ls hl => ?_)
  refine lv_goto (tgt := 678) hx hb dL_samples_701 (by decide) ?_
  refine lv_iload hx hb dL_samples_678 (lv_at hl 0 rfl) ?_
  refine lv_bipush (v := 11) hx hb dL_samples_680 (by decide) ?_
  refine lv_iload hx hb dL_samples_682 (lv_at hl 4 rfl) ?_
  refine lv_imul hx hb dL_samples_684 ?_
  refine hh_seti (y := (nI (11 * k))) (lwMul (a := 11) (b := k) (by omega)) ?_
  refine lv_icmp_le (tgt := 704) hx hb dL_samples_685 (by decide) (fun h9 => absurd h9 (fun q => absurd ((nI_leI (a := 11 * k + 6) (b := 11 * k) (by omega) (by omega)).mp q) (by omega))) (fun _ => ?_)
  refine lv_aload_n hx hb dL_samples_688 rfl (lv_at hl 8 rfl) ?_
  refine lv_iload hx hb dL_samples_689 (lv_at hl 0 rfl) ?_
  refine lv_aload_n hx hb dL_samples_691 rfl (lv_at hl 8 rfl) ?_
  refine lv_iload hx hb dL_samples_692 (lv_at hl 0 rfl) ?_
  refine lv_iconst (v := 1) hx hb dL_samples_694 (by decide) ?_
  refine lv_isub hx hb dL_samples_695 ?_
  refine hh_seti (y := (nI (11 * k + 5))) (lwSub (a := 11 * k + 6) (b := 1) (by omega)) ?_
  refine lr_ll hx hb hK hP 6 1 (e0 := 11 * k + 5) rfl rfl (by omega) (by decide) dL_samples_696 ?_
  refine hh_setl (y := (fu (11 * k + 5))) (((ul_ne _ _ (by omega)).trans ((ul_ne _ _ (by omega)).trans ((ul_ne _ _ (by omega)).trans (ul_ne _ _ (by omega))))).symm) ?_
  refine lr_ls hx hb hK hP hD hS 6 1 (e0 := 11 * k + 6) rfl rfl (by omega) (by decide) dL_samples_697 (w1 := ([zAI cI t6 3 fm, zAI cI t7 3 fh, zAI cI t8 3 fs, zAJ cJ t9 3 fy, zAJ cJ t10 3 fp, zAJ cJ adW 60 (vp_updL (vp_updL fw (20 * k + 14) (fw (20 * k + 14))) (20 * k + 15) (0 : Int64)), zAJ cJ adU 33 (vp_updL (vp_updL (vp_updL (vp_updL (vp_updL fu (11 * k + 10) (fu (11 * k + 9))) (11 * k + 9) (fu (11 * k + 8))) (11 * k + 8) (fu (11 * k + 7))) (11 * k + 7) (fu (11 * k + 6))) (11 * k + 6) (fu (11 * k + 5))), zAJ cJ adG 60 fg, zAI cI adN 6 fn] ++ wB cI cJ cO adB adA lf bs a U)) rfl (fun H locs hP hD hS => ?_)
  refine lv_iinc (v := (nI (11 * k + 5))) (lv' := [(24, .int (nI (11 * k + 5))), (23, .int (1 : Int32)), (18, .long ou), (13, .int (nI (20 * k))), (12, .int (nI k)), (11, .int (1 : Int32)), (0, .ref adB), (1, .ref adW), (2, .ref adU), (3, .ref adG), (4, .ref adN), (5, .int sa), (6, .ref t6), (7, .ref t7), (8, .ref t8), (9, .ref t9), (10, .ref t10)]) hx hb dL_samples_698 hl (k := 0) rfl (lwDec (by omega)) (by decide) rfl (fun ls hl => ?_)
  refine lv_goto (tgt := 678) hx hb dL_samples_701 (by decide) ?_
  refine lv_iload hx hb dL_samples_678 (lv_at hl 0 rfl) ?_
  refine lv_bipush (v := 11) hx hb dL_samples_680 (by decide) ?_
  refine lv_iload hx hb dL_samples_682 (lv_at hl 4 rfl) ?_
  refine lv_imul hx hb dL_samples_684 ?_
  refine hh_seti (y := (nI (11 * k))) (lwMul (a := 11) (b := k) (by omega)) ?_
  refine lv_icmp_le (tgt := 704) hx hb dL_samples_685 (by decide) (fun h9 => absurd h9 (fun q => absurd ((nI_leI (a := 11 * k + 5) (b := 11 * k) (by omega) (by omega)).mp q) (by omega))) (fun _ => ?_)
  refine lv_aload_n hx hb dL_samples_688 rfl (lv_at hl 8 rfl) ?_
  refine lv_iload hx hb dL_samples_689 (lv_at hl 0 rfl) ?_
  refine lv_aload_n hx hb dL_samples_691 rfl (lv_at hl 8 rfl) ?_
  refine lv_iload hx hb dL_samples_692 (lv_at hl 0 rfl) ?_
  refine lv_iconst (v := 1) hx hb dL_samples_694 (by decide) ?_
  refine lv_isub hx hb dL_samples_695 ?_
  refine hh_seti (y := (nI (11 * k + 4))) (lwSub (a := 11 * k + 5) (b := 1) (by omega)) ?_
  refine lr_ll hx hb hK hP 6 1 (e0 := 11 * k + 4) rfl rfl (by omega) (by decide) dL_samples_696 ?_
  refine hh_setl (y := (fu (11 * k + 4))) (((ul_ne _ _ (by omega)).trans ((ul_ne _ _ (by omega)).trans ((ul_ne _ _ (by omega)).trans ((ul_ne _ _ (by omega)).trans (ul_ne _ _ (by omega)))))).symm) ?_
  refine lr_ls hx hb hK hP hD hS 6 1 (e0 := 11 * k + 5) rfl rfl (by omega) (by decide) dL_samples_697 (w1 := ([zAI cI t6 3 fm, zAI cI t7 3 fh, zAI cI t8 3 fs, zAJ cJ t9 3 fy, zAJ cJ t10 3 fp, zAJ cJ adW 60 (vp_updL (vp_updL fw (20 * k + 14) (fw (20 * k + 14))) (20 * k + 15) (0 : Int64)), zAJ cJ adU 33 (vp_updL (vp_updL (vp_updL (vp_updL (vp_updL (vp_updL fu (11 * k + 10) (fu (11 * k + 9))) (11 * k + 9) (fu (11 * k + 8))) (11 * k + 8) (fu (11 * k + 7))) (11 * k + 7) (fu (11 * k + 6))) (11 * k + 6) (fu (11 * k + 5))) (11 * k + 5) (fu (11 * k + 4))), zAJ cJ adG 60 fg, zAI cI adN 6 fn] ++ wB cI cJ cO adB adA lf bs a U)) rfl (fun H locs hP hD hS => ?_)
  refine lv_iinc (v := (nI (11 * k + 4))) (lv' := [(24, .int (nI (11 * k + 4))), (23, .int (1 : Int32)), (18, .long ou), (13, .int (nI (20 * k))), (12, .int (nI k)), (11, .int (1 : Int32)), (0, .ref adB), (1, .ref adW), (2, .ref adU), (3, .ref adG), (4, .ref adN), (5, .int sa), (6, .ref t6), (7, .ref t7), (8, .ref t8), (9, .ref t9), (10, .ref t10)]) hx hb dL_samples_698 hl (k := 0) rfl (lwDec (by omega)) (by decide) rfl (fun ls hl => ?_)
  refine lv_goto (tgt := 678) hx hb dL_samples_701 (by decide) ?_
  refine lv_iload hx hb dL_samples_678 (lv_at hl 0 rfl) ?_
  refine lv_bipush (v := 11) hx hb dL_samples_680 (by decide) ?_
  refine lv_iload hx hb dL_samples_682 (lv_at hl 4 rfl) ?_
  refine lv_imul hx hb dL_samples_684 ?_
  refine hh_seti (y := (nI (11 * k))) (lwMul (a := 11) (b := k) (by omega)) ?_
  refine lv_icmp_le (tgt := 704) hx hb dL_samples_685 (by decide) (fun h9 => absurd h9 (fun q => absurd ((nI_leI (a := 11 * k + 4) (b := 11 * k) (by omega) (by omega)).mp q) (by omega))) (fun _ => ?_)
  refine lv_aload_n hx hb dL_samples_688 rfl (lv_at hl 8 rfl) ?_
  refine lv_iload hx hb dL_samples_689 (lv_at hl 0 rfl) ?_
  refine lv_aload_n hx hb dL_samples_691 rfl (lv_at hl 8 rfl) ?_
  refine lv_iload hx hb dL_samples_692 (lv_at hl 0 rfl) ?_
  refine lv_iconst (v := 1) hx hb dL_samples_694 (by decide) ?_
  refine lv_isub hx hb dL_samples_695 ?_
  refine hh_seti (y := (nI (11 * k + 3))) (lwSub (a := 11 * k + 4) (b := 1) (by omega)) ?_
  refine lr_ll hx hb hK hP 6 1 (e0 := 11 * k + 3) rfl rfl (by omega) (by decide) dL_samples_696 ?_
  refine hh_setl (y := (fu (11 * k + 3))) (((ul_ne _ _ (by omega)).trans ((ul_ne _ _ (by omega)).trans ((ul_ne _ _ (by omega)).trans ((ul_ne _ _ (by omega)).trans ((ul_ne _ _ (by omega)).trans (ul_ne _ _ (by omega))))))).symm) ?_
  refine lr_ls hx hb hK hP hD hS 6 1 (e0 := 11 * k + 4) rfl rfl (by omega) (by decide) dL_samples_697 (w1 := ([zAI cI t6 3 fm, zAI cI t7 3 fh, zAI cI t8 3 fs, zAJ cJ t9 3 fy, zAJ cJ t10 3 fp, zAJ cJ adW 60 (vp_updL (vp_updL fw (20 * k + 14) (fw (20 * k + 14))) (20 * k + 15) (0 : Int64)), zAJ cJ adU 33 (vp_updL (vp_updL (vp_updL (vp_updL (vp_updL (vp_updL (vp_updL fu (11 * k + 10) (fu (11 * k + 9))) (11 * k + 9) (fu (11 * k + 8))) (11 * k + 8) (fu (11 * k + 7))) (11 * k + 7) (fu (11 * k + 6))) (11 * k + 6) (fu (11 * k + 5))) (11 * k + 5) (fu (11 * k + 4))) (11 * k + 4) (fu (11 * k + 3))), zAJ cJ adG 60 fg, zAI cI adN 6 fn] ++ wB cI cJ cO adB adA lf bs a U)) rfl (fun H locs hP hD hS => ?_)
  refine lv_iinc (v := (nI (11 * k + 3))) (lv' := [(24, .int (nI (11 * k + 3))), (23, .int (1 : Int32)), (18, .long ou), (13, .int (nI (20 * k))), (12, .int (nI k)), (11, .int (1 : Int32)), (0, .ref adB), (1, .ref adW), (2, .ref adU), (3, .ref adG), (4, .ref adN), (5, .int sa), (6, .ref t6), (7, .ref t7), (8, .ref t8), (9, .ref t9), (10, .ref t10)]) hx hb dL_samples_698 hl (k := 0) rfl (lwDec (by omega)) (by decide) rfl (fun ls hl => ?_)
  refine lv_goto (tgt := 678) hx hb dL_samples_701 (by decide) ?_
  refine lv_iload hx hb dL_samples_678 (lv_at hl 0 rfl) ?_
  refine lv_bipush (v := 11) hx hb dL_samples_680 (by decide) ?_
  refine lv_iload hx hb dL_samples_682 (lv_at hl 4 rfl) ?_
  refine lv_imul hx hb dL_samples_684 ?_
  refine hh_seti (y := (nI (11 * k))) (lwMul (a := 11) (b := k) (by omega)) ?_
  refine lv_icmp_le (tgt := 704) hx hb dL_samples_685 (by decide) (fun h9 => absurd h9 (fun q => absurd ((nI_leI (a := 11 * k + 3) (b := 11 * k) (by omega) (by omega)).mp q) (by omega))) (fun _ => ?_)
  refine lv_aload_n hx hb dL_samples_688 rfl (lv_at hl 8 rfl) ?_
  refine lv_iload hx hb dL_samples_689 (lv_at hl 0 rfl) ?_
  refine lv_aload_n hx hb dL_samples_691 rfl (lv_at hl 8 rfl) ?_
  refine lv_iload hx hb dL_samples_692 (lv_at hl 0 rfl) ?_
  refine lv_iconst (v := 1) hx hb dL_samples_694 (by decide) ?_
  refine lv_isub hx hb dL_samples_695 ?_
  refine hh_seti (y := (nI (11 * k + 2))) (lwSub (a := 11 * k + 3) (b := 1) (by omega)) ?_
  refine lr_ll hx hb hK hP 6 1 (e0 := 11 * k + 2) rfl rfl (by omega) (by decide) dL_samples_696 ?_
  refine hh_setl (y := (fu (11 * k + 2))) (((ul_ne _ _ (by omega)).trans ((ul_ne _ _ (by omega)).trans ((ul_ne _ _ (by omega)).trans ((ul_ne _ _ (by omega)).trans ((ul_ne _ _ (by omega)).trans ((ul_ne _ _ (by omega)).trans (ul_ne _ _ (by omega)))))))).symm) ?_
  refine lr_ls hx hb hK hP hD hS 6 1 (e0 := 11 * k + 3) rfl rfl (by omega) (by decide) dL_samples_697 (w1 := ([zAI cI t6 3 fm, zAI cI t7 3 fh, zAI cI t8 3 fs, zAJ cJ t9 3 fy, zAJ cJ t10 3 fp, zAJ cJ adW 60 (vp_updL (vp_updL fw (20 * k + 14) (fw (20 * k + 14))) (20 * k + 15) (0 : Int64)), zAJ cJ adU 33 (vp_updL (vp_updL (vp_updL (vp_updL (vp_updL (vp_updL (vp_updL (vp_updL fu (11 * k + 10) (fu (11 * k + 9))) (11 * k + 9) (fu (11 * k + 8))) (11 * k + 8) (fu (11 * k + 7))) (11 * k + 7) (fu (11 * k + 6))) (11 * k + 6) (fu (11 * k + 5))) (11 * k + 5) (fu (11 * k + 4))) (11 * k + 4) (fu (11 * k + 3))) (11 * k + 3) (fu (11 * k + 2))), zAJ cJ adG 60 fg, zAI cI adN 6 fn] ++ wB cI cJ cO adB adA lf bs a U)) rfl (fun H locs hP hD hS => ?_)
  refine lv_iinc (v := (nI (11 * k + 2))) (lv' := [(24, .int (nI (11 * k + 2))), (23, .int (1 : Int32)), (18, .long ou), (13, .int (nI (20 * k))), (12, .int (nI k)), (11, .int (1 : Int32)), (0, .ref adB), (1, .ref adW), (2, .ref adU), (3, .ref adG), (4, .ref adN), (5, .int sa), (6, .ref t6), (7, .ref t7), (8, .ref t8), (9, .ref t9), (10, .ref t10)]) hx hb dL_samples_698 hl (k := 0) rfl (lwDec (by omega)) (by decide) rfl (fun ls hl => ?_)
  refine lv_goto (tgt := 678) hx hb dL_samples_701 (by decide) ?_
  refine lv_iload hx hb dL_samples_678 (lv_at hl 0 rfl) ?_
  refine lv_bipush (v := 11) hx hb dL_samples_680 (by decide) ?_
  refine lv_iload hx hb dL_samples_682 (lv_at hl 4 rfl) ?_
  refine lv_imul hx hb dL_samples_684 ?_
  refine hh_seti (y := (nI (11 * k))) (lwMul (a := 11) (b := k) (by omega)) ?_
  refine lv_icmp_le (tgt := 704) hx hb dL_samples_685 (by decide) (fun h9 => absurd h9 (fun q => absurd ((nI_leI (a := 11 * k + 2) (b := 11 * k) (by omega) (by omega)).mp q) (by omega))) (fun _ => ?_)
  refine lv_aload_n hx hb dL_samples_688 rfl (lv_at hl 8 rfl) ?_
  refine lv_iload hx hb dL_samples_689 (lv_at hl 0 rfl) ?_
  refine lv_aload_n hx hb dL_samples_691 rfl (lv_at hl 8 rfl) ?_
  refine lv_iload hx hb dL_samples_692 (lv_at hl 0 rfl) ?_
  refine lv_iconst (v := 1) hx hb dL_samples_694 (by decide) ?_
  refine lv_isub hx hb dL_samples_695 ?_
  refine hh_seti (y := (nI (11 * k + 1))) (lwSub (a := 11 * k + 2) (b := 1) (by omega)) ?_
  refine lr_ll hx hb hK hP 6 1 (e0 := 11 * k + 1) rfl rfl (by omega) (by decide) dL_samples_696 ?_
  refine hh_setl (y := (fu (11 * k + 1))) (((ul_ne _ _ (by omega)).trans ((ul_ne _ _ (by omega)).trans ((ul_ne _ _ (by omega)).trans ((ul_ne _ _ (by omega)).trans ((ul_ne _ _ (by omega)).trans ((ul_ne _ _ (by omega)).trans ((ul_ne _ _ (by omega)).trans (ul_ne _ _ (by omega))))))))).symm) ?_
  refine lr_ls hx hb hK hP hD hS 6 1 (e0 := 11 * k + 2) rfl rfl (by omega) (by decide) dL_samples_697 (w1 := ([zAI cI t6 3 fm, zAI cI t7 3 fh, zAI cI t8 3 fs, zAJ cJ t9 3 fy, zAJ cJ t10 3 fp, zAJ cJ adW 60 (vp_updL (vp_updL fw (20 * k + 14) (fw (20 * k + 14))) (20 * k + 15) (0 : Int64)), zAJ cJ adU 33 (vp_updL (vp_updL (vp_updL (vp_updL (vp_updL (vp_updL (vp_updL (vp_updL (vp_updL fu (11 * k + 10) (fu (11 * k + 9))) (11 * k + 9) (fu (11 * k + 8))) (11 * k + 8) (fu (11 * k + 7))) (11 * k + 7) (fu (11 * k + 6))) (11 * k + 6) (fu (11 * k + 5))) (11 * k + 5) (fu (11 * k + 4))) (11 * k + 4) (fu (11 * k + 3))) (11 * k + 3) (fu (11 * k + 2))) (11 * k + 2) (fu (11 * k + 1))), zAJ cJ adG 60 fg, zAI cI adN 6 fn] ++ wB cI cJ cO adB adA lf bs a U)) rfl (fun H locs hP hD hS => ?_)
  refine lv_iinc (v := (nI (11 * k + 1))) (lv' := [(24, .int (nI (11 * k + 1))), (23, .int (1 : Int32)), (18, .long ou), (13, .int (nI (20 * k))), (12, .int (nI k)), (11, .int (1 : Int32)), (0, .ref adB), (1, .ref adW), (2, .ref adU), (3, .ref adG), (4, .ref adN), (5, .int sa), (6, .ref t6), (7, .ref t7), (8, .ref t8), (9, .ref t9), (10, .ref t10)]) hx hb dL_samples_698 hl (k := 0) rfl (lwDec (by omega)) (by decide) rfl (fun ls hl => ?_)
  refine lv_goto (tgt := 678) hx hb dL_samples_701 (by decide) ?_
  refine lv_iload hx hb dL_samples_678 (lv_at hl 0 rfl) ?_
  refine lv_bipush (v := 11) hx hb dL_samples_680 (by decide) ?_
  refine lv_iload hx hb dL_samples_682 (lv_at hl 4 rfl) ?_
  refine lv_imul hx hb dL_samples_684 ?_
  refine hh_seti (y := (nI (11 * k))) (lwMul (a := 11) (b := k) (by omega)) ?_
  refine lv_icmp_le (tgt := 704) hx hb dL_samples_685 (by decide) (fun h9 => absurd h9 (fun q => absurd ((nI_leI (a := 11 * k + 1) (b := 11 * k) (by omega) (by omega)).mp q) (by omega))) (fun _ => ?_)
  refine lv_aload_n hx hb dL_samples_688 rfl (lv_at hl 8 rfl) ?_
  refine lv_iload hx hb dL_samples_689 (lv_at hl 0 rfl) ?_
  refine lv_aload_n hx hb dL_samples_691 rfl (lv_at hl 8 rfl) ?_
  refine lv_iload hx hb dL_samples_692 (lv_at hl 0 rfl) ?_
  refine lv_iconst (v := 1) hx hb dL_samples_694 (by decide) ?_
  refine lv_isub hx hb dL_samples_695 ?_
  refine hh_seti (y := (nI (11 * k))) (lwSub (a := 11 * k + 1) (b := 1) (by omega)) ?_
  refine lr_ll hx hb hK hP 6 1 (e0 := 11 * k) rfl rfl (by omega) (by decide) dL_samples_696 ?_
  refine hh_setl (y := (fu (11 * k))) (((ul_ne _ _ (by omega)).trans ((ul_ne _ _ (by omega)).trans ((ul_ne _ _ (by omega)).trans ((ul_ne _ _ (by omega)).trans ((ul_ne _ _ (by omega)).trans ((ul_ne _ _ (by omega)).trans ((ul_ne _ _ (by omega)).trans ((ul_ne _ _ (by omega)).trans (ul_ne _ _ (by omega)))))))))).symm) ?_
  refine lr_ls hx hb hK hP hD hS 6 1 (e0 := 11 * k + 1) rfl rfl (by omega) (by decide) dL_samples_697 (w1 := ([zAI cI t6 3 fm, zAI cI t7 3 fh, zAI cI t8 3 fs, zAJ cJ t9 3 fy, zAJ cJ t10 3 fp, zAJ cJ adW 60 (vp_updL (vp_updL fw (20 * k + 14) (fw (20 * k + 14))) (20 * k + 15) (0 : Int64)), zAJ cJ adU 33 (vp_updL (vp_updL (vp_updL (vp_updL (vp_updL (vp_updL (vp_updL (vp_updL (vp_updL (vp_updL fu (11 * k + 10) (fu (11 * k + 9))) (11 * k + 9) (fu (11 * k + 8))) (11 * k + 8) (fu (11 * k + 7))) (11 * k + 7) (fu (11 * k + 6))) (11 * k + 6) (fu (11 * k + 5))) (11 * k + 5) (fu (11 * k + 4))) (11 * k + 4) (fu (11 * k + 3))) (11 * k + 3) (fu (11 * k + 2))) (11 * k + 2) (fu (11 * k + 1))) (11 * k + 1) (fu (11 * k))), zAJ cJ adG 60 fg, zAI cI adN 6 fn] ++ wB cI cJ cO adB adA lf bs a U)) rfl (fun H locs hP hD hS => ?_)
  refine lv_iinc (v := (nI (11 * k))) (lv' := [(24, .int (nI (11 * k))), (23, .int (1 : Int32)), (18, .long ou), (13, .int (nI (20 * k))), (12, .int (nI k)), (11, .int (1 : Int32)), (0, .ref adB), (1, .ref adW), (2, .ref adU), (3, .ref adG), (4, .ref adN), (5, .int sa), (6, .ref t6), (7, .ref t7), (8, .ref t8), (9, .ref t9), (10, .ref t10)]) hx hb dL_samples_698 hl (k := 0) rfl (lwDec (by omega)) (by decide) rfl (fun ls hl => ?_)
  refine lv_goto (tgt := 678) hx hb dL_samples_701 (by decide) ?_
  refine lv_iload hx hb dL_samples_678 (lv_at hl 0 rfl) ?_
  refine lv_bipush (v := 11) hx hb dL_samples_680 (by decide) ?_
  refine lv_iload hx hb dL_samples_682 (lv_at hl 4 rfl) ?_
  refine lv_imul hx hb dL_samples_684 ?_
  refine hh_seti (y := (nI (11 * k))) (lwMul (a := 11) (b := k) (by omega)) ?_
  refine lv_icmp_le (tgt := 704) hx hb dL_samples_685 (by decide) (fun _ => ?_) (fun h9 => absurd ((nI_leI (a := 11 * k) (b := 11 * k) (by omega) (by omega)).mpr (by omega)) h9)
  refine lv_aload_n hx hb dL_samples_704 rfl (lv_at hl 8 rfl) ?_
  refine lv_bipush (v := 11) hx hb dL_samples_705 (by decide) ?_
  refine lv_iload hx hb dL_samples_707 (lv_at hl 4 rfl) ?_
  refine lv_imul hx hb dL_samples_709 ?_
  refine hh_seti (y := (nI (11 * k))) (lwMul (a := 11) (b := k) (by omega)) ?_
  refine lv_lload hx hb dL_samples_710 (lv_at hl 2 rfl) ?_
  refine lr_ls hx hb hK hP hD hS 6 1 (e0 := 11 * k) rfl rfl (by omega) (by decide) dL_samples_712 (w1 := ([zAI cI t6 3 fm, zAI cI t7 3 fh, zAI cI t8 3 fs, zAJ cJ t9 3 fy, zAJ cJ t10 3 fp, zAJ cJ adW 60 (vp_updL (vp_updL fw (20 * k + 14) (fw (20 * k + 14))) (20 * k + 15) (0 : Int64)), zAJ cJ adU 33 (vp_updL (vp_updL (vp_updL (vp_updL (vp_updL (vp_updL (vp_updL (vp_updL (vp_updL (vp_updL (vp_updL fu (11 * k + 10) (fu (11 * k + 9))) (11 * k + 9) (fu (11 * k + 8))) (11 * k + 8) (fu (11 * k + 7))) (11 * k + 7) (fu (11 * k + 6))) (11 * k + 6) (fu (11 * k + 5))) (11 * k + 5) (fu (11 * k + 4))) (11 * k + 4) (fu (11 * k + 3))) (11 * k + 3) (fu (11 * k + 2))) (11 * k + 2) (fu (11 * k + 1))) (11 * k + 1) (fu (11 * k))) (11 * k) ou), zAJ cJ adG 60 fg, zAI cI adN 6 fn] ++ wB cI cJ cO adB adA lf bs a U)) rfl (fun H locs hP hD hS => ?_)
  refine lv_iload hx hb dL_samples_713 (lv_at hl 5 rfl) ?_
  refine lv_if_eq (tgt := 744) hx hb dL_samples_715 (by decide) (fun h9 => absurd h9 (by decide)) (fun _ => ?_)
  refine lv_aload_n hx hb dL_samples_718 rfl (lv_at hl 6 rfl) ?_
  refine lv_iload hx hb dL_samples_719 (lv_at hl 4 rfl) ?_
  refine s_measure (k := k)  K hk  ⟨Nat.le_trans (Nat.le_of_ble_eq_true rfl) hR.1, Nat.le_trans (Nat.le_of_ble_eq_true rfl) hR.2⟩ hcs (Nat.le_of_ble_eq_true rfl) hP hD hS hA hl.1 dL_samples_721 (fun H locs hP hD hS => ?_)
  refine hh_setl (y := (yl_pme (U k))) (rfl) ?_
  refine lv_aload_n hx hb dL_samples_724 rfl (lv_at hl 7 rfl) ?_
  refine lv_aload_n hx hb dL_samples_725 rfl (lv_at hl 8 rfl) ?_
  refine lv_iload hx hb dL_samples_726 (lv_at hl 4 rfl) ?_
  refine lv_aload hx hb dL_samples_728 (lv_at hl 15 rfl) ?_
  refine lv_iload hx hb dL_samples_730 (lv_at hl 4 rfl) ?_
  refine lr_ll hx hb hK hP 3 1 (e0 := k) rfl rfl (by omega) (by decide) dL_samples_732 ?_
  refine hh_setl (y := (yl_pme (T k))) ((hfy k (by omega)).symm) ?_
  have hFU : FU2 k fu (vp_updL (vp_updL (vp_updL (vp_updL (vp_updL (vp_updL (vp_updL (vp_updL (vp_updL (vp_updL (vp_updL fu (11 * k + 10) (fu (11 * k + 9))) (11 * k + 9) (fu (11 * k + 8))) (11 * k + 8) (fu (11 * k + 7))) (11 * k + 7) (fu (11 * k + 6))) (11 * k + 6) (fu (11 * k + 5))) (11 * k + 5) (fu (11 * k + 4))) (11 * k + 4) (fu (11 * k + 3))) (11 * k + 3) (fu (11 * k + 2))) (11 * k + 2) (fu (11 * k + 1))) (11 * k + 1) (fu (11 * k))) (11 * k) ou) ou := by
    have h10 : (vp_updL (vp_updL (vp_updL (vp_updL (vp_updL (vp_updL (vp_updL (vp_updL (vp_updL (vp_updL (vp_updL fu (11 * k + 10) (fu (11 * k + 9))) (11 * k + 9) (fu (11 * k + 8))) (11 * k + 8) (fu (11 * k + 7))) (11 * k + 7) (fu (11 * k + 6))) (11 * k + 6) (fu (11 * k + 5))) (11 * k + 5) (fu (11 * k + 4))) (11 * k + 4) (fu (11 * k + 3))) (11 * k + 3) (fu (11 * k + 2))) (11 * k + 2) (fu (11 * k + 1))) (11 * k + 1) (fu (11 * k))) (11 * k) ou) (11 * k + 10) = fu (11 * k + 9) := (ul_ne _ _ (by omega)).trans ((ul_ne _ _ (by omega)).trans ((ul_ne _ _ (by omega)).trans ((ul_ne _ _ (by omega)).trans ((ul_ne _ _ (by omega)).trans ((ul_ne _ _ (by omega)).trans ((ul_ne _ _ (by omega)).trans ((ul_ne _ _ (by omega)).trans ((ul_ne _ _ (by omega)).trans ((ul_ne _ _ (by omega)).trans (ul_eq _ _ _))))))))))
    have h9 : (vp_updL (vp_updL (vp_updL (vp_updL (vp_updL (vp_updL (vp_updL (vp_updL (vp_updL (vp_updL (vp_updL fu (11 * k + 10) (fu (11 * k + 9))) (11 * k + 9) (fu (11 * k + 8))) (11 * k + 8) (fu (11 * k + 7))) (11 * k + 7) (fu (11 * k + 6))) (11 * k + 6) (fu (11 * k + 5))) (11 * k + 5) (fu (11 * k + 4))) (11 * k + 4) (fu (11 * k + 3))) (11 * k + 3) (fu (11 * k + 2))) (11 * k + 2) (fu (11 * k + 1))) (11 * k + 1) (fu (11 * k))) (11 * k) ou) (11 * k + 9) = fu (11 * k + 8) := (ul_ne _ _ (by omega)).trans ((ul_ne _ _ (by omega)).trans ((ul_ne _ _ (by omega)).trans ((ul_ne _ _ (by omega)).trans ((ul_ne _ _ (by omega)).trans ((ul_ne _ _ (by omega)).trans ((ul_ne _ _ (by omega)).trans ((ul_ne _ _ (by omega)).trans ((ul_ne _ _ (by omega)).trans (ul_eq _ _ _)))))))))
    have h8 : (vp_updL (vp_updL (vp_updL (vp_updL (vp_updL (vp_updL (vp_updL (vp_updL (vp_updL (vp_updL (vp_updL fu (11 * k + 10) (fu (11 * k + 9))) (11 * k + 9) (fu (11 * k + 8))) (11 * k + 8) (fu (11 * k + 7))) (11 * k + 7) (fu (11 * k + 6))) (11 * k + 6) (fu (11 * k + 5))) (11 * k + 5) (fu (11 * k + 4))) (11 * k + 4) (fu (11 * k + 3))) (11 * k + 3) (fu (11 * k + 2))) (11 * k + 2) (fu (11 * k + 1))) (11 * k + 1) (fu (11 * k))) (11 * k) ou) (11 * k + 8) = fu (11 * k + 7) := (ul_ne _ _ (by omega)).trans ((ul_ne _ _ (by omega)).trans ((ul_ne _ _ (by omega)).trans ((ul_ne _ _ (by omega)).trans ((ul_ne _ _ (by omega)).trans ((ul_ne _ _ (by omega)).trans ((ul_ne _ _ (by omega)).trans ((ul_ne _ _ (by omega)).trans (ul_eq _ _ _))))))))
    have h7 : (vp_updL (vp_updL (vp_updL (vp_updL (vp_updL (vp_updL (vp_updL (vp_updL (vp_updL (vp_updL (vp_updL fu (11 * k + 10) (fu (11 * k + 9))) (11 * k + 9) (fu (11 * k + 8))) (11 * k + 8) (fu (11 * k + 7))) (11 * k + 7) (fu (11 * k + 6))) (11 * k + 6) (fu (11 * k + 5))) (11 * k + 5) (fu (11 * k + 4))) (11 * k + 4) (fu (11 * k + 3))) (11 * k + 3) (fu (11 * k + 2))) (11 * k + 2) (fu (11 * k + 1))) (11 * k + 1) (fu (11 * k))) (11 * k) ou) (11 * k + 7) = fu (11 * k + 6) := (ul_ne _ _ (by omega)).trans ((ul_ne _ _ (by omega)).trans ((ul_ne _ _ (by omega)).trans ((ul_ne _ _ (by omega)).trans ((ul_ne _ _ (by omega)).trans ((ul_ne _ _ (by omega)).trans ((ul_ne _ _ (by omega)).trans (ul_eq _ _ _)))))))
    have h6 : (vp_updL (vp_updL (vp_updL (vp_updL (vp_updL (vp_updL (vp_updL (vp_updL (vp_updL (vp_updL (vp_updL fu (11 * k + 10) (fu (11 * k + 9))) (11 * k + 9) (fu (11 * k + 8))) (11 * k + 8) (fu (11 * k + 7))) (11 * k + 7) (fu (11 * k + 6))) (11 * k + 6) (fu (11 * k + 5))) (11 * k + 5) (fu (11 * k + 4))) (11 * k + 4) (fu (11 * k + 3))) (11 * k + 3) (fu (11 * k + 2))) (11 * k + 2) (fu (11 * k + 1))) (11 * k + 1) (fu (11 * k))) (11 * k) ou) (11 * k + 6) = fu (11 * k + 5) := (ul_ne _ _ (by omega)).trans ((ul_ne _ _ (by omega)).trans ((ul_ne _ _ (by omega)).trans ((ul_ne _ _ (by omega)).trans ((ul_ne _ _ (by omega)).trans ((ul_ne _ _ (by omega)).trans (ul_eq _ _ _))))))
    have h5 : (vp_updL (vp_updL (vp_updL (vp_updL (vp_updL (vp_updL (vp_updL (vp_updL (vp_updL (vp_updL (vp_updL fu (11 * k + 10) (fu (11 * k + 9))) (11 * k + 9) (fu (11 * k + 8))) (11 * k + 8) (fu (11 * k + 7))) (11 * k + 7) (fu (11 * k + 6))) (11 * k + 6) (fu (11 * k + 5))) (11 * k + 5) (fu (11 * k + 4))) (11 * k + 4) (fu (11 * k + 3))) (11 * k + 3) (fu (11 * k + 2))) (11 * k + 2) (fu (11 * k + 1))) (11 * k + 1) (fu (11 * k))) (11 * k) ou) (11 * k + 5) = fu (11 * k + 4) := (ul_ne _ _ (by omega)).trans ((ul_ne _ _ (by omega)).trans ((ul_ne _ _ (by omega)).trans ((ul_ne _ _ (by omega)).trans ((ul_ne _ _ (by omega)).trans (ul_eq _ _ _)))))
    have h4 : (vp_updL (vp_updL (vp_updL (vp_updL (vp_updL (vp_updL (vp_updL (vp_updL (vp_updL (vp_updL (vp_updL fu (11 * k + 10) (fu (11 * k + 9))) (11 * k + 9) (fu (11 * k + 8))) (11 * k + 8) (fu (11 * k + 7))) (11 * k + 7) (fu (11 * k + 6))) (11 * k + 6) (fu (11 * k + 5))) (11 * k + 5) (fu (11 * k + 4))) (11 * k + 4) (fu (11 * k + 3))) (11 * k + 3) (fu (11 * k + 2))) (11 * k + 2) (fu (11 * k + 1))) (11 * k + 1) (fu (11 * k))) (11 * k) ou) (11 * k + 4) = fu (11 * k + 3) := (ul_ne _ _ (by omega)).trans ((ul_ne _ _ (by omega)).trans ((ul_ne _ _ (by omega)).trans ((ul_ne _ _ (by omega)).trans (ul_eq _ _ _))))
    have h3 : (vp_updL (vp_updL (vp_updL (vp_updL (vp_updL (vp_updL (vp_updL (vp_updL (vp_updL (vp_updL (vp_updL fu (11 * k + 10) (fu (11 * k + 9))) (11 * k + 9) (fu (11 * k + 8))) (11 * k + 8) (fu (11 * k + 7))) (11 * k + 7) (fu (11 * k + 6))) (11 * k + 6) (fu (11 * k + 5))) (11 * k + 5) (fu (11 * k + 4))) (11 * k + 4) (fu (11 * k + 3))) (11 * k + 3) (fu (11 * k + 2))) (11 * k + 2) (fu (11 * k + 1))) (11 * k + 1) (fu (11 * k))) (11 * k) ou) (11 * k + 3) = fu (11 * k + 2) := (ul_ne _ _ (by omega)).trans ((ul_ne _ _ (by omega)).trans ((ul_ne _ _ (by omega)).trans (ul_eq _ _ _)))
    have h2 : (vp_updL (vp_updL (vp_updL (vp_updL (vp_updL (vp_updL (vp_updL (vp_updL (vp_updL (vp_updL (vp_updL fu (11 * k + 10) (fu (11 * k + 9))) (11 * k + 9) (fu (11 * k + 8))) (11 * k + 8) (fu (11 * k + 7))) (11 * k + 7) (fu (11 * k + 6))) (11 * k + 6) (fu (11 * k + 5))) (11 * k + 5) (fu (11 * k + 4))) (11 * k + 4) (fu (11 * k + 3))) (11 * k + 3) (fu (11 * k + 2))) (11 * k + 2) (fu (11 * k + 1))) (11 * k + 1) (fu (11 * k))) (11 * k) ou) (11 * k + 2) = fu (11 * k + 1) := (ul_ne _ _ (by omega)).trans ((ul_ne _ _ (by omega)).trans (ul_eq _ _ _))
    have h1 : (vp_updL (vp_updL (vp_updL (vp_updL (vp_updL (vp_updL (vp_updL (vp_updL (vp_updL (vp_updL (vp_updL fu (11 * k + 10) (fu (11 * k + 9))) (11 * k + 9) (fu (11 * k + 8))) (11 * k + 8) (fu (11 * k + 7))) (11 * k + 7) (fu (11 * k + 6))) (11 * k + 6) (fu (11 * k + 5))) (11 * k + 5) (fu (11 * k + 4))) (11 * k + 4) (fu (11 * k + 3))) (11 * k + 3) (fu (11 * k + 2))) (11 * k + 2) (fu (11 * k + 1))) (11 * k + 1) (fu (11 * k))) (11 * k) ou) (11 * k + 1) = fu (11 * k) := (ul_ne _ _ (by omega)).trans (ul_eq _ _ _)
    refine ⟨ul_eq _ _ _, fun i hi => ?_⟩
    rcases (show i = 0 ∨ i = 1 ∨ i = 2 ∨ i = 3 ∨ i = 4 ∨ i = 5 ∨ i = 6 ∨ i = 7 ∨ i = 8 ∨ i = 9 by omega) with rfl | rfl | rfl | rfl | rfl | rfl | rfl | rfl | rfl | rfl
    · exact h1
    · exact h2
    · exact h3
    · exact h4
    · exact h5
    · exact h6
    · exact h7
    · exact h8
    · exact h9
    · exact h10
  obtain ⟨d, hd, h3, hpm⟩ := hme (vp_updL (vp_updL fw (20 * k + 14) (fw (20 * k + 14))) (20 * k + 15) (0 : Int64)) (vp_updL (vp_updL (vp_updL (vp_updL (vp_updL (vp_updL (vp_updL (vp_updL (vp_updL (vp_updL (vp_updL fu (11 * k + 10) (fu (11 * k + 9))) (11 * k + 9) (fu (11 * k + 8))) (11 * k + 8) (fu (11 * k + 7))) (11 * k + 7) (fu (11 * k + 6))) (11 * k + 6) (fu (11 * k + 5))) (11 * k + 5) (fu (11 * k + 4))) (11 * k + 4) (fu (11 * k + 3))) (11 * k + 3) (fu (11 * k + 2))) (11 * k + 2) (fu (11 * k + 1))) (11 * k + 1) (fu (11 * k))) (11 * k) ou) hFU (by intro i hi; repeat rw [ul_ne _ _ (by omega)])
  refine lw_Rl2 (wl := [zAI cI t6 3 fm, zAI cI t7 3 fh, zAI cI t8 3 fs, zAJ cJ t9 3 fy, zAJ cJ t10 3 fp]) (wr := ([zAJ cJ adW 60 (vp_updL (vp_updL fw (20 * k + 14) (fw (20 * k + 14))) (20 * k + 15) (0 : Int64)), zAJ cJ adU 33 (vp_updL (vp_updL (vp_updL (vp_updL (vp_updL (vp_updL (vp_updL (vp_updL (vp_updL (vp_updL (vp_updL fu (11 * k + 10) (fu (11 * k + 9))) (11 * k + 9) (fu (11 * k + 8))) (11 * k + 8) (fu (11 * k + 7))) (11 * k + 7) (fu (11 * k + 6))) (11 * k + 6) (fu (11 * k + 5))) (11 * k + 5) (fu (11 * k + 4))) (11 * k + 4) (fu (11 * k + 3))) (11 * k + 3) (fu (11 * k + 2))) (11 * k + 2) (fu (11 * k + 1))) (11 * k + 1) (fu (11 * k))) (11 * k) ou), zAJ cJ adG 60 fg, zAI cI adN 6 fn] ++ wB cI cJ cO adB adA lf bs a U)) (wq := ([zAJ cJ adW 60 (vp_updL (vp_updL fw (20 * k + 14) (fw (20 * k + 14))) (20 * k + 15) (0 : Int64)), zAJ cJ adU 33 (vp_updL (vp_updL (vp_updL (vp_updL (vp_updL (vp_updL (vp_updL (vp_updL (vp_updL (vp_updL (vp_updL fu (11 * k + 10) (fu (11 * k + 9))) (11 * k + 9) (fu (11 * k + 8))) (11 * k + 8) (fu (11 * k + 7))) (11 * k + 7) (fu (11 * k + 6))) (11 * k + 6) (fu (11 * k + 5))) (11 * k + 5) (fu (11 * k + 4))) (11 * k + 4) (fu (11 * k + 3))) (11 * k + 3) (fu (11 * k + 2))) (11 * k + 2) (fu (11 * k + 1))) (11 * k + 1) (fu (11 * k))) (11 * k) ou), zAJ cJ adG 60 fg, zAI cI adN 6 fn] ++ wB cI cJ cO adB adA lf bs a U)) (rv := (lx_next (vp_updL (vp_updL fw (20 * k + 14) (fw (20 * k + 14))) (20 * k + 15) (0 : Int64)) (vp_updL (vp_updL (vp_updL (vp_updL (vp_updL (vp_updL (vp_updL (vp_updL (vp_updL (vp_updL (vp_updL fu (11 * k + 10) (fu (11 * k + 9))) (11 * k + 9) (fu (11 * k + 8))) (11 * k + 8) (fu (11 * k + 7))) (11 * k + 7) (fu (11 * k + 6))) (11 * k + 6) (fu (11 * k + 5))) (11 * k + 5) (fu (11 * k + 4))) (11 * k + 4) (fu (11 * k + 3))) (11 * k + 3) (fu (11 * k + 2))) (11 * k + 2) (fu (11 * k + 1))) (11 * k + 1) (fu (11 * k))) (11 * k) ou) k d (yl_pme (T k)))) (rest := [.long (yl_pme (U k))]) (va_runS (As := [.ref adW, .ref adU, .int (nI k), .long (yl_pme (T k))]) (rest := [.long (yl_pme (U k))]) ⟨hx, hb, hml, hown, hts⟩ (c_L_next l dC dI cI cJ cZ cO adB adA adW adU adG adN lf a bs U (vp_updL (vp_updL fw (20 * k + 14) (fw (20 * k + 14))) (20 * k + 15) (0 : Int64)) (vp_updL (vp_updL (vp_updL (vp_updL (vp_updL (vp_updL (vp_updL (vp_updL (vp_updL (vp_updL (vp_updL fu (11 * k + 10) (fu (11 * k + 9))) (11 * k + 9) (fu (11 * k + 8))) (11 * k + 8) (fu (11 * k + 7))) (11 * k + 7) (fu (11 * k + 6))) (11 * k + 6) (fu (11 * k + 5))) (11 * k + 5) (fu (11 * k + 4))) (11 * k + 4) (fu (11 * k + 3))) (11 * k + 3) (fu (11 * k + 2))) (11 * k + 2) (fu (11 * k + 1))) (11 * k + 1) (fu (11 * k))) (11 * k) ou) fg fn k (yl_pme (T k)) d _ hlf hk hd h3) (va_cwS 4 hts (gd_S wd_4_25 wd_4_26 wd_1_0 wd_4_27) rfl rfl rfl (by decide +kernel) ⟨Nat.le_trans (Nat.le_of_ble_eq_true rfl) hR.1, Nat.le_trans (Nat.le_of_ble_eq_true rfl) hR.2⟩) (lw_S2 (wl := [zAI cI t6 3 fm, zAI cI t7 3 fh, zAI cI t8 3 fs, zAJ cJ t9 3 fy, zAJ cJ t10 3 fp]) gN_c (fun U _ hW => gN_w hW hG) hK (List.Perm.refl _) hP hD) rfl rfl hl.1 rfl (lv_room (Nat.le_of_ble_eq_true rfl)) dL_samples_733 hcs) (List.Perm.refl _) (List.Perm.refl _) hP hD hS hA (fun H locs hP hD hS => ?_)
  have hP : va_P (dC, dI) vwCl ([zAI cI t6 3 fm, zAI cI t7 3 fh, zAI cI t8 3 fs, zAJ cJ t9 3 fy, zAJ cJ t10 3 fp, zAJ cJ adW 60 (vp_updL (vp_updL fw (20 * k + 14) (fw (20 * k + 14))) (20 * k + 15) (0 : Int64)), zAJ cJ adU 33 (vp_updL (vp_updL (vp_updL (vp_updL (vp_updL (vp_updL (vp_updL (vp_updL (vp_updL (vp_updL (vp_updL fu (11 * k + 10) (fu (11 * k + 9))) (11 * k + 9) (fu (11 * k + 8))) (11 * k + 8) (fu (11 * k + 7))) (11 * k + 7) (fu (11 * k + 6))) (11 * k + 6) (fu (11 * k + 5))) (11 * k + 5) (fu (11 * k + 4))) (11 * k + 4) (fu (11 * k + 3))) (11 * k + 3) (fu (11 * k + 2))) (11 * k + 2) (fu (11 * k + 1))) (11 * k + 1) (fu (11 * k))) (11 * k) ou), zAJ cJ adG 60 fg, zAI cI adN 6 fn] ++ wB cI cJ cO adB adA lf bs a U) H := hP
  have hD : va_D A ([zAI cI t6 3 fm, zAI cI t7 3 fh, zAI cI t8 3 fs, zAJ cJ t9 3 fy, zAJ cJ t10 3 fp, zAJ cJ adW 60 (vp_updL (vp_updL fw (20 * k + 14) (fw (20 * k + 14))) (20 * k + 15) (0 : Int64)), zAJ cJ adU 33 (vp_updL (vp_updL (vp_updL (vp_updL (vp_updL (vp_updL (vp_updL (vp_updL (vp_updL (vp_updL (vp_updL fu (11 * k + 10) (fu (11 * k + 9))) (11 * k + 9) (fu (11 * k + 8))) (11 * k + 8) (fu (11 * k + 7))) (11 * k + 7) (fu (11 * k + 6))) (11 * k + 6) (fu (11 * k + 5))) (11 * k + 5) (fu (11 * k + 4))) (11 * k + 4) (fu (11 * k + 3))) (11 * k + 3) (fu (11 * k + 2))) (11 * k + 2) (fu (11 * k + 1))) (11 * k + 1) (fu (11 * k))) (11 * k) ou), zAJ cJ adG 60 fg, zAI cI adN 6 fn] ++ wB cI cJ cO adB adA lf bs a U) := hD
  refine hh_cne (tgt := 744) hx hb dL_samples_736 dL_samples_737 (by decide) (fun h9 => absurd (hpm) h9) (fun _ => ?_)
  refine lv_iconst (v := 1) hx hb dL_samples_740 (by decide) ?_
  refine lv_goto (tgt := 745) hx hb dL_samples_741 (by decide) ?_
  refine lv_istore (lv' := [(11, .int (1 : Int32)), (24, .int (nI (11 * k))), (23, .int (1 : Int32)), (18, .long ou), (13, .int (nI (20 * k))), (12, .int (nI k)), (0, .ref adB), (1, .ref adW), (2, .ref adU), (3, .ref adG), (4, .ref adN), (5, .int sa), (6, .ref t6), (7, .ref t7), (8, .ref t8), (9, .ref t9), (10, .ref t10)]) hx hb dL_samples_745 hl (by decide) rfl (fun ls hl => ?_)
  refine lv_aload_n hx hb dL_samples_747 rfl (lv_at hl 7 rfl) ?_
  refine lv_iload hx hb dL_samples_748 (lv_at hl 4 rfl) ?_
  refine lv_bipush (v := 10) hx hb dL_samples_750 (by decide) ?_
  refine lv_iadd hx hb dL_samples_752 ?_
  refine hh_seti (y := (nI (20 * k + 10))) (lwAdd (a := 20 * k) (b := 10) (by omega)) ?_
  refine lv_aload hx hb dL_samples_753 (lv_at hl 15 rfl) ?_
  refine lv_iload hx hb dL_samples_755 (lv_at hl 5 rfl) ?_
  refine lr_ll hx hb hK hP 3 1 (e0 := k) rfl rfl (by omega) (by decide) dL_samples_757 ?_
  refine hh_setl (y := (yl_pme (T k))) ((hfy k (by omega)).symm) ?_
  refine lr_ls hx hb hK hP hD hS 5 1 (e0 := 20 * k + 10) rfl rfl (by omega) (by decide) dL_samples_758 (w1 := ([zAI cI t6 3 fm, zAI cI t7 3 fh, zAI cI t8 3 fs, zAJ cJ t9 3 fy, zAJ cJ t10 3 fp, zAJ cJ adW 60 (vp_updL (vp_updL (vp_updL fw (20 * k + 14) (fw (20 * k + 14))) (20 * k + 15) (0 : Int64)) (20 * k + 10) (yl_pme (T k))), zAJ cJ adU 33 (vp_updL (vp_updL (vp_updL (vp_updL (vp_updL (vp_updL (vp_updL (vp_updL (vp_updL (vp_updL (vp_updL fu (11 * k + 10) (fu (11 * k + 9))) (11 * k + 9) (fu (11 * k + 8))) (11 * k + 8) (fu (11 * k + 7))) (11 * k + 7) (fu (11 * k + 6))) (11 * k + 6) (fu (11 * k + 5))) (11 * k + 5) (fu (11 * k + 4))) (11 * k + 4) (fu (11 * k + 3))) (11 * k + 3) (fu (11 * k + 2))) (11 * k + 2) (fu (11 * k + 1))) (11 * k + 1) (fu (11 * k))) (11 * k) ou), zAJ cJ adG 60 fg, zAI cI adN 6 fn] ++ wB cI cJ cO adB adA lf bs a U)) rfl (fun H locs hP hD hS => ?_)
  refine lv_iinc (v := (nI (k + 1))) (lv' := [(12, .int (nI (k + 1))), (11, .int (1 : Int32)), (24, .int (nI (11 * k))), (23, .int (1 : Int32)), (18, .long ou), (13, .int (nI (20 * k))), (0, .ref adB), (1, .ref adW), (2, .ref adU), (3, .ref adG), (4, .ref adN), (5, .int sa), (6, .ref t6), (7, .ref t7), (8, .ref t8), (9, .ref t9), (10, .ref t10)]) hx hb dL_samples_759 hl (k := 5) rfl (nI_add (k) 1) (by decide) rfl (fun ls hl => ?_)
  refine lv_goto (tgt := 117) hx hb dL_samples_762 (by decide) ?_
  have hFW : FW2 k fw (vp_updL (vp_updL (vp_updL fw (20 * k + 14) (fw (20 * k + 14))) (20 * k + 15) (0 : Int64)) (20 * k + 10) (yl_pme (T k))) (yl_pme (T k)) (fw (20 * k + 14)) := ⟨by intro i hi h10 h14 h15; repeat rw [ul_ne _ _ (by omega)], ul_eq _ _ _, (ul_ne _ _ (by omega)).trans ((ul_ne _ _ (by omega)).trans (ul_eq _ _ _)), (ul_ne _ _ (by omega)).trans (ul_eq _ _ _)⟩
  exact kk (vp_updL (vp_updL (vp_updL fw (20 * k + 14) (fw (20 * k + 14))) (20 * k + 15) (0 : Int64)) (20 * k + 10) (yl_pme (T k))) (vp_updL (vp_updL (vp_updL (vp_updL (vp_updL (vp_updL (vp_updL (vp_updL (vp_updL (vp_updL (vp_updL fu (11 * k + 10) (fu (11 * k + 9))) (11 * k + 9) (fu (11 * k + 8))) (11 * k + 8) (fu (11 * k + 7))) (11 * k + 7) (fu (11 * k + 6))) (11 * k + 6) (fu (11 * k + 5))) (11 * k + 5) (fu (11 * k + 4))) (11 * k + 4) (fu (11 * k + 3))) (11 * k + 3) (fu (11 * k + 2))) (11 * k + 2) (fu (11 * k + 1))) (11 * k + 1) (fu (11 * k))) (11 * k) ou) fn H locs ls hFW hFU (by intro i hi; repeat rw [ul_ne _ _ (by omega)]) (by intro i hi; repeat rw [ul_ne _ _ (by omega)]) rfl hP hD hS (lv_sub hl [0, 1, 6, 7, 8, 9, 10, 11, 12, 13, 14, 15, 16] rfl)
end ST
