section SK
variable {p : Program} {l : Launch} {e : Env} {R : Room} {s : State} {m : MethodId} {args : Array Value} {below : List Frame} {meth : Method} {c : Code} {H : Heap} {locs : List Loc} {cells slots k : Nat} {Q : State → Prop} {ls : Array Slot}
variable {dC : Nat → ClassId} {dI : Nat → Nat → Nat} {cI cJ cZ cO : ClassId} {adB adA adW adU adG adN : Nat} {lf : Nat → Option Nat} {bs : Int32} {a : Nat → AT} {T U : Nat → LT} {A : Nat → Prop} {fw fu fg : Nat → Int64} {fn : Nat → Int32}
set_option maxHeartbeats 4000000 in
set_option maxRecDepth 100000 in
theorem sm_A2 (K : FX p s m c cL_samples 25 args (dC, dI) cI cJ cZ cO lf a) {t6 t7 t8 t9 t10 : Nat} {fm fh fs : Nat → Int32} {fy fp : Nat → Int64} {sa : Int32} {j : Nat} (hk : k < 3) (hfm : ∀ j : Nat, j < 3 → fm j = yl_lmo (T j)) (hfh : ∀ j : Nat, j < 3 → fh j = yl_khe (T j)) (hfs : ∀ j : Nat, j < 3 → fs j = yl_rpr (T j)) (hfy : ∀ j : Nat, j < 3 → fy j = yl_pme (T j)) (hfp : ∀ j : Nat, j < 3 → fp j = yl_ksp (T j)) (hm : yl_lmo (T k) = (2 : Int32)) (hlo : ¬ yl_lou (U k) < fw (20 * k + 5)) (hhi : ¬ fw (20 * k + 6) < yl_lou (U k)) (hst : yl_lst (U k) = (0 : Int32)) (hme : ∀ fwm fu2 : Nat → Int64, FU2 k fu fu2 (yl_lou (U k)) → (∀ i : Nat, i < 14 → fwm (20 * k + i) = fw (20 * k + i)) → ∃ d : Nat, d < 11 ∧ (fwm (20 * k + 3)).toInt32 = nI d ∧ yl_pme (U k) = lx_next fwm fu2 k d (yl_pme (T k))) (hk1 : 1 ≤ k) (hsp : yl_ksp (U k) = yl_lou (U (k - 1))) (hns : k < 2 → fw (20 * k + 29) = 1 → yl_lmo (T (k + 1)) = (2 : Int32)) (hkh : ¬ yl_khe (U k) - yl_khe (T k) < (0 : Int32) ∧ ¬ (1 : Int32) < yl_khe (U k) - yl_khe (T k)) (hmx : yl_lmo (U k) = yl_lmo (T k) ∧ yl_rpr (U k) = yl_rpr (T k)) (hj : j ≤ 5) (hnj : fn k = nI j) (hg0 : j = 0 ∨ ∃ t1 t2 : Nat, t1 < j ∧ t2 < j ∧ fg (4 * t1 + 20 * k + 0 + 1) ≤ (yl_kp (U k)).toInt64 ∧ (yl_kp (U k)).toInt64 ≤ fg (4 * t2 + 20 * k + 0 + 1)) (hg1 : j = 0 ∨ ∃ t1 t2 : Nat, t1 < j ∧ t2 < j ∧ fg (4 * t1 + 20 * k + 1 + 1) ≤ (yl_ki (U k)).toInt64 ∧ (yl_ki (U k)).toInt64 ≤ fg (4 * t2 + 20 * k + 1 + 1)) (hg2 : j = 0 ∨ ∃ t1 t2 : Nat, t1 < j ∧ t2 < j ∧ fg (4 * t1 + 20 * k + 2 + 1) ≤ (yl_kd (U k)).toInt64 ∧ (yl_kd (U k)).toInt64 ≤ fg (4 * t2 + 20 * k + 2 + 1)) (h14 : fw (20 * k + 14) = 0 ∨ fw (20 * k + 14) = 1) (hqB : yl_khe (U k) = yl_khe (T k) → fn k = 0 → (fw (20 * k + 15) = 1 ∨ ¬ fw (20 * k + 14) = 0) → (lr_outputByIncrements (U k)) = (yl_lou (U k))) (hRP : ∀ (fw2 fu2 : Nat → Int64) (v14 : Int64), FW2 k fw fw2 (yl_pme (T k)) v14 → FU2 k fu fu2 (yl_lou (U k)) → (v14 = 0 ∨ (v14 = 1 ∧ fn k = 0 ∧ yl_khe (U k) = yl_khe (T k) ∧ (fw (20 * k + 15) = 1 ∨ ¬ fw (20 * k + 14) = 0))) → RP k (U k) fw2 fu2 fg fn) (hR : 3 ≤ R.frames ∧ 77 ≤ R.locals) (hcs : cells ≤ R.cells ∧ slots ≤ R.slots) (hP : va_P (dC, dI) vwCl ([zAI cI t6 3 fm, zAI cI t7 3 fh, zAI cI t8 3 fs, zAJ cJ t9 3 fy, zAJ cJ t10 3 fp, zAJ cJ adW 60 fw, zAJ cJ adU 33 fu, zAJ cJ adG 60 fg, zAI cI adN 6 fn] ++ wB cI cJ cO adB adA lf bs a U) H) (hD : va_D A ([zAI cI t6 3 fm, zAI cI t7 3 fh, zAI cI t8 3 fs, zAJ cJ t9 3 fy, zAJ cJ t10 3 fp, zAJ cJ adW 60 fw, zAJ cJ adU 33 fu, zAJ cJ adG 60 fg, zAI cI adN 6 fn] ++ wB cI cJ cO adB adA lf bs a U)) (hS : va_S A s.heap H locs) (hA : ∀ q : Nat, s.heap.size ≤ q → A q) (hl : lv_has ls 25 [(12, .int (nI k)), (11, .int (1 : Int32)), (0, .ref adB), (1, .ref adW), (2, .ref adU), (3, .ref adG), (4, .ref adN), (5, .int sa), (6, .ref t6), (7, .ref t7), (8, .ref t8), (9, .ref t9), (10, .ref t10)])
    (kk : ∀ (fw2 fu2 : Nat → Int64) (fn2 : Nat → Int32) (H : Heap) (locs : List Loc) (ls : Array Slot), RP k (U k) fw2 fu2 fg fn2 → fw2 (20 * k + 15) = 0 → (∀ i : Nat, i < 20 * k ∨ 20 * k + 20 ≤ i → fw2 i = fw i) → (∀ i : Nat, i < 11 * k ∨ 11 * k + 11 ≤ i → fu2 i = fu i) → (∀ j : Nat, ¬ j = k + 3 → fn2 j = fn j) → va_P (dC, dI) vwCl ([zAI cI t6 3 fm, zAI cI t7 3 fh, zAI cI t8 3 fs, zAJ cJ t9 3 fy, zAJ cJ t10 3 fp, zAJ cJ adW 60 fw2, zAJ cJ adU 33 fu2, zAJ cJ adG 60 fg, zAI cI adN 6 fn2] ++ wB cI cJ cO adB adA lf bs a U) H → va_D A ([zAI cI t6 3 fm, zAI cI t7 3 fh, zAI cI t8 3 fs, zAJ cJ t9 3 fy, zAJ cJ t10 3 fp, zAJ cJ adW 60 fw2, zAJ cJ adU 33 fu2, zAJ cJ adG 60 fg, zAI cI adN 6 fn2] ++ wB cI cJ cO adB adA lf bs a U) → va_S A s.heap H locs → lv_has ls 25 [(12, .int (nI (k + 1))), (11, .int (1 : Int32)), (0, .ref adB), (1, .ref adW), (2, .ref adU), (3, .ref adG), (4, .ref adN), (5, .int sa), (6, .ref t6), (7, .ref t7), (8, .ref t8), (9, .ref t9), (10, .ref t10)] → W p l e R s m args below meth c H locs cells slots Q (F0 m 117 ls [])) : W p l e R s m args below meth c H locs cells slots Q (F0 m 117 ls []) := by
  obtain ⟨hx, hb, hml, hown, hts, hG, hK, hlf⟩ := id K
  have hR9 : 2 ≤ R.frames ∧ 52 ≤ R.locals := ⟨Nat.le_trans (Nat.le_of_ble_eq_true rfl) hR.1, Nat.le_trans (Nat.le_of_ble_eq_true rfl) hR.2⟩
  refine lv_iload hx hb dL_samples_117 (lv_at hl 0 rfl) ?_
  refine lv_iconst (v := 3) hx hb dL_samples_119 (by decide) ?_
  refine lv_icmp_ge (tgt := 765) hx hb dL_samples_120 (by decide) (fun h9 => absurd h9 (fun q => absurd ((nI_leI (a := 3) (b := k) (by omega) (by omega)).mp q) (by omega))) (fun _ => ?_)
  refine lv_iload hx hb dL_samples_123 (lv_at hl 1 rfl) ?_
  refine lv_if_eq (tgt := 765) hx hb dL_samples_125 (by decide) (fun h9 => absurd h9 (by decide)) (fun _ => ?_)
  refine lv_bipush (v := 20) hx hb dL_samples_128 (by decide) ?_
  refine lv_iload hx hb dL_samples_130 (lv_at hl 0 rfl) ?_
  refine lv_imul hx hb dL_samples_132 ?_
  refine hh_seti (y := (nI (20 * k))) (lwMul (a := 20) (b := k) (by omega)) ?_
  refine lv_istore (lv' := [(13, .int (nI (20 * k))), (12, .int (nI k)), (11, .int (1 : Int32)), (0, .ref adB), (1, .ref adW), (2, .ref adU), (3, .ref adG), (4, .ref adN), (5, .int sa), (6, .ref t6), (7, .ref t7), (8, .ref t8), (9, .ref t9), (10, .ref t10)]) hx hb dL_samples_133 hl (by decide) rfl (fun ls hl => ?_)
  refine lv_aload_n hx hb dL_samples_135 rfl (lv_at hl 4 rfl) ?_
  refine lv_iload hx hb dL_samples_136 (lv_at hl 0 rfl) ?_
  refine lv_iconst (v := 5) hx hb dL_samples_138 (by decide) ?_
  refine lv_iadd hx hb dL_samples_139 ?_
  refine hh_seti (y := (nI (20 * k + 5))) (lwAdd (a := 20 * k) (b := 5) (by omega)) ?_
  refine lr_ll hx hb hK hP 5 1 (e0 := 20 * k + 5) rfl rfl (by omega) (by decide) dL_samples_140 ?_
  refine lv_lstore (lv' := [(14, .long (fw (20 * k + 5))), (13, .int (nI (20 * k))), (12, .int (nI k)), (11, .int (1 : Int32)), (0, .ref adB), (1, .ref adW), (2, .ref adU), (3, .ref adG), (4, .ref adN), (5, .int sa), (6, .ref t6), (7, .ref t7), (8, .ref t8), (9, .ref t9), (10, .ref t10)]) hx hb dL_samples_141 hl (by decide) rfl (fun ls hl => ?_)
  refine lv_aload_n hx hb dL_samples_143 rfl (lv_at hl 5 rfl) ?_
  refine lv_iload hx hb dL_samples_144 (lv_at hl 1 rfl) ?_
  refine lv_bipush (v := 6) hx hb dL_samples_146 (by decide) ?_
  refine lv_iadd hx hb dL_samples_148 ?_
  refine hh_seti (y := (nI (20 * k + 6))) (lwAdd (a := 20 * k) (b := 6) (by omega)) ?_
  refine lr_ll hx hb hK hP 5 1 (e0 := 20 * k + 6) rfl rfl (by omega) (by decide) dL_samples_149 ?_
  refine lv_lstore (lv' := [(16, .long (fw (20 * k + 6))), (14, .long (fw (20 * k + 5))), (13, .int (nI (20 * k))), (12, .int (nI k)), (11, .int (1 : Int32)), (0, .ref adB), (1, .ref adW), (2, .ref adU), (3, .ref adG), (4, .ref adN), (5, .int sa), (6, .ref t6), (7, .ref t7), (8, .ref t8), (9, .ref t9), (10, .ref t10)]) hx hb dL_samples_150 hl (by decide) rfl (fun ls hl => ?_)
  refine lv_aload_n hx hb dL_samples_152 rfl (lv_at hl 5 rfl) ?_
  refine lv_iload hx hb dL_samples_153 (lv_at hl 3 rfl) ?_
  refine s_output (k := k)  K hk  ⟨Nat.le_trans (Nat.le_of_ble_eq_true rfl) hR.1, Nat.le_trans (Nat.le_of_ble_eq_true rfl) hR.2⟩ hcs (Nat.le_of_ble_eq_true rfl) hP hD hS hA hl.1 dL_samples_155 (fun H locs hP hD hS => ?_)
  refine hh_setl (y := (yl_lou (U k))) (rfl) ?_
  refine lv_lstore (lv' := [(18, .long (yl_lou (U k))), (16, .long (fw (20 * k + 6))), (14, .long (fw (20 * k + 5))), (13, .int (nI (20 * k))), (12, .int (nI k)), (11, .int (1 : Int32)), (0, .ref adB), (1, .ref adW), (2, .ref adU), (3, .ref adG), (4, .ref adN), (5, .int sa), (6, .ref t6), (7, .ref t7), (8, .ref t8), (9, .ref t9), (10, .ref t10)]) hx hb dL_samples_158 hl (by decide) rfl (fun ls hl => ?_)
  have J1 : ∀ (H : Heap) (locs : List Loc) (ls : Array Slot), va_P (dC, dI) vwCl ([zAI cI t6 3 fm, zAI cI t7 3 fh, zAI cI t8 3 fs, zAJ cJ t9 3 fy, zAJ cJ t10 3 fp, zAJ cJ adW 60 fw, zAJ cJ adU 33 fu, zAJ cJ adG 60 fg, zAI cI adN 6 fn] ++ wB cI cJ cO adB adA lf bs a U) H → va_D A ([zAI cI t6 3 fm, zAI cI t7 3 fh, zAI cI t8 3 fs, zAJ cJ t9 3 fy, zAJ cJ t10 3 fp, zAJ cJ adW 60 fw, zAJ cJ adU 33 fu, zAJ cJ adG 60 fg, zAI cI adN 6 fn] ++ wB cI cJ cO adB adA lf bs a U) → va_S A s.heap H locs → lv_has ls 25 [(18, .long (yl_lou (U k))), (16, .long (fw (20 * k + 6))), (14, .long (fw (20 * k + 5))), (13, .int (nI (20 * k))), (12, .int (nI k)), (11, .int (1 : Int32)), (0, .ref adB), (1, .ref adW), (2, .ref adU), (3, .ref adG), (4, .ref adN), (5, .int sa), (6, .ref t6), (7, .ref t7), (8, .ref t8), (9, .ref t9), (10, .ref t10)] → W p l e R s m args below meth c H locs (cells) (slots) Q (F0 m 212 ls [.int (0 : Int32)]) := by
    intro H locs ls hP hD hS hl
    refine lv_istore (lv' := [(20, .int (0 : Int32)), (18, .long (yl_lou (U k))), (16, .long (fw (20 * k + 6))), (14, .long (fw (20 * k + 5))), (13, .int (nI (20 * k))), (12, .int (nI k)), (11, .int (1 : Int32)), (0, .ref adB), (1, .ref adW), (2, .ref adU), (3, .ref adG), (4, .ref adN), (5, .int sa), (6, .ref t6), (7, .ref t7), (8, .ref t8), (9, .ref t9), (10, .ref t10)]) hx hb dL_samples_212 hl (by decide) rfl (fun ls hl => ?_)
    have J2 : ∀ (H : Heap) (locs : List Loc) (ls : Array Slot), va_P (dC, dI) vwCl ([zAI cI t6 3 fm, zAI cI t7 3 fh, zAI cI t8 3 fs, zAJ cJ t9 3 fy, zAJ cJ t10 3 fp, zAJ cJ adW 60 fw, zAJ cJ adU 33 fu, zAJ cJ adG 60 fg, zAI cI adN 6 fn] ++ wB cI cJ cO adB adA lf bs a U) H → va_D A ([zAI cI t6 3 fm, zAI cI t7 3 fh, zAI cI t8 3 fs, zAJ cJ t9 3 fy, zAJ cJ t10 3 fp, zAJ cJ adW 60 fw, zAJ cJ adU 33 fu, zAJ cJ adG 60 fg, zAI cI adN 6 fn] ++ wB cI cJ cO adB adA lf bs a U) → va_S A s.heap H locs → lv_has ls 25 [(20, .int (0 : Int32)), (18, .long (yl_lou (U k))), (16, .long (fw (20 * k + 6))), (14, .long (fw (20 * k + 5))), (13, .int (nI (20 * k))), (12, .int (nI k)), (11, .int (1 : Int32)), (0, .ref adB), (1, .ref adW), (2, .ref adU), (3, .ref adG), (4, .ref adN), (5, .int sa), (6, .ref t6), (7, .ref t7), (8, .ref t8), (9, .ref t9), (10, .ref t10)] → W p l e R s m args below meth c H locs (cells) (slots) Q (F0 m 267 ls [.long (yl_ksp (U k))]) := by
      intro H locs ls hP hD hS hl
      refine lv_lstore (lv' := [(21, .long (yl_ksp (U k))), (20, .int (0 : Int32)), (18, .long (yl_lou (U k))), (16, .long (fw (20 * k + 6))), (14, .long (fw (20 * k + 5))), (13, .int (nI (20 * k))), (12, .int (nI k)), (11, .int (1 : Int32)), (0, .ref adB), (1, .ref adW), (2, .ref adU), (3, .ref adG), (4, .ref adN), (5, .int sa), (6, .ref t6), (7, .ref t7), (8, .ref t8), (9, .ref t9), (10, .ref t10)]) hx hb dL_samples_267 hl (by decide) rfl (fun ls hl => ?_)
      refine lv_aload hx hb dL_samples_269 (lv_at hl 14 rfl) ?_
      refine lv_iload hx hb dL_samples_271 (lv_at hl 6 rfl) ?_
      refine lr_il hx hb hK hP 0 0 (e0 := k) rfl rfl (by omega) (by decide) dL_samples_273 ?_
      refine hh_seti (y := (yl_lmo (T k))) ((hfm k (by omega)).symm) ?_
      refine lv_iconst (v := 1) hx hb dL_samples_274 (by decide) ?_
      refine lv_icmp_eq (tgt := 287) hx hb dL_samples_275 (by decide) (fun h9 => absurd h9 ((by rw [hm]; decide))) (fun _ => ?_)
      refine lv_aload hx hb dL_samples_278 (lv_at hl 14 rfl) ?_
      refine lv_iload hx hb dL_samples_280 (lv_at hl 6 rfl) ?_
      refine lr_il hx hb hK hP 0 0 (e0 := k) rfl rfl (by omega) (by decide) dL_samples_282 ?_
      refine hh_seti (y := (yl_lmo (T k))) ((hfm k (by omega)).symm) ?_
      refine lv_iconst (v := 2) hx hb dL_samples_283 (by decide) ?_
      refine lv_icmp_ne (tgt := 296) hx hb dL_samples_284 (by decide) (fun h9 => absurd (hm) h9) (fun _ => ?_)
      refine lv_iload hx hb dL_samples_287 (lv_at hl 1 rfl) ?_
      refine lv_if_ne (tgt := 296) hx hb dL_samples_289 (by decide) (fun h9 => absurd h9 (by decide)) (fun _ => ?_)
      refine lv_iconst (v := 1) hx hb dL_samples_292 (by decide) ?_
      refine lv_goto (tgt := 297) hx hb dL_samples_293 (by decide) ?_
      refine lv_istore (lv' := [(23, .int (1 : Int32)), (21, .long (yl_ksp (U k))), (20, .int (0 : Int32)), (18, .long (yl_lou (U k))), (16, .long (fw (20 * k + 6))), (14, .long (fw (20 * k + 5))), (13, .int (nI (20 * k))), (12, .int (nI k)), (11, .int (1 : Int32)), (0, .ref adB), (1, .ref adW), (2, .ref adU), (3, .ref adG), (4, .ref adN), (5, .int sa), (6, .ref t6), (7, .ref t7), (8, .ref t8), (9, .ref t9), (10, .ref t10)]) hx hb dL_samples_297 hl (by decide) rfl (fun ls hl => ?_)
      refine lv_lload hx hb dL_samples_299 (lv_at hl 3 rfl) ?_
      refine lv_lload hx hb dL_samples_301 (lv_at hl 5 rfl) ?_
      refine hh_clt (tgt := 395) hx hb dL_samples_303 dL_samples_304 (by decide) (fun h9 => absurd h9 (hlo)) (fun _ => ?_)
      refine lv_lload hx hb dL_samples_307 (lv_at hl 3 rfl) ?_
      refine lv_lload hx hb dL_samples_309 (lv_at hl 4 rfl) ?_
      refine hh_cgt (tgt := 395) hx hb dL_samples_311 dL_samples_312 (by decide) (fun h9 => absurd h9 (hhi)) (fun _ => ?_)
      refine lv_aload_n hx hb dL_samples_315 rfl (lv_at hl 9 rfl) ?_
      refine lv_iload hx hb dL_samples_316 (lv_at hl 7 rfl) ?_
      refine s_wasStarved (k := k)  K hk ((by rw [hst]; rfl)) ⟨Nat.le_trans (Nat.le_of_ble_eq_true rfl) hR.1, Nat.le_trans (Nat.le_of_ble_eq_true rfl) hR.2⟩ hcs (Nat.le_of_ble_eq_true rfl) hP hD hS hA hl.1 dL_samples_318 (fun H locs hP hD hS => ?_)
      refine hh_seti (y := (yl_lst (U k))) (rfl) ?_
      refine lv_iload hx hb dL_samples_321 (lv_at hl 2 rfl) ?_
      refine lv_icmp_ne (tgt := 395) hx hb dL_samples_323 (by decide) (fun h9 => absurd (hst) h9) (fun _ => ?_)
      refine lv_aload_n hx hb dL_samples_326 rfl (lv_at hl 9 rfl) ?_
      refine lv_iload hx hb dL_samples_327 (lv_at hl 7 rfl) ?_
      refine s_setpoint (k := k)  K hk  ⟨Nat.le_trans (Nat.le_of_ble_eq_true rfl) hR.1, Nat.le_trans (Nat.le_of_ble_eq_true rfl) hR.2⟩ hcs (Nat.le_of_ble_eq_true rfl) hP hD hS hA hl.1 dL_samples_329 (fun H locs hP hD hS => ?_)
      refine hh_setl (y := (yl_ksp (U k))) (rfl) ?_
      refine lv_lload hx hb dL_samples_332 (lv_at hl 1 rfl) ?_
      refine hh_cne (tgt := 395) hx hb dL_samples_334 dL_samples_335 (by decide) (fun h9 => absurd (rfl) h9) (fun _ => ?_)
      refine lv_aload_n hx hb dL_samples_338 rfl (lv_at hl 9 rfl) ?_
      refine lv_iload hx hb dL_samples_339 (lv_at hl 7 rfl) ?_
      refine s_held (k := k)  K hk  ⟨Nat.le_trans (Nat.le_of_ble_eq_true rfl) hR.1, Nat.le_trans (Nat.le_of_ble_eq_true rfl) hR.2⟩ hcs (Nat.le_of_ble_eq_true rfl) hP hD hS hA hl.1 dL_samples_341 (fun H locs hP hD hS => ?_)
      refine hh_seti (y := (yl_khe (U k))) (rfl) ?_
      refine lv_aload hx hb dL_samples_344 (lv_at hl 16 rfl) ?_
      refine lv_iload hx hb dL_samples_346 (lv_at hl 7 rfl) ?_
      refine lr_il hx hb hK hP 1 0 (e0 := k) rfl rfl (by omega) (by decide) dL_samples_348 ?_
      refine hh_seti (y := (yl_khe (T k))) ((hfh k (by omega)).symm) ?_
      refine lv_isub hx hb dL_samples_349 ?_
      refine lv_if_lt (tgt := 395) hx hb dL_samples_350 (by decide) (fun h9 => absurd h9 (hkh.1)) (fun _ => ?_)
      refine lv_iload hx hb dL_samples_353 (lv_at hl 0 rfl) ?_
      refine lv_if_eq (tgt := 377) hx hb dL_samples_355 (by decide) (fun h9 => absurd h9 (by decide)) (fun _ => ?_)
      refine lv_aload_n hx hb dL_samples_358 rfl (lv_at hl 9 rfl) ?_
      refine lv_iload hx hb dL_samples_359 (lv_at hl 7 rfl) ?_
      refine s_held (k := k)  K hk  ⟨Nat.le_trans (Nat.le_of_ble_eq_true rfl) hR.1, Nat.le_trans (Nat.le_of_ble_eq_true rfl) hR.2⟩ hcs (Nat.le_of_ble_eq_true rfl) hP hD hS hA hl.1 dL_samples_361 (fun H locs hP hD hS => ?_)
      refine hh_seti (y := (yl_khe (U k))) (rfl) ?_
      refine lv_aload hx hb dL_samples_364 (lv_at hl 16 rfl) ?_
      refine lv_iload hx hb dL_samples_366 (lv_at hl 7 rfl) ?_
      refine lr_il hx hb hK hP 1 0 (e0 := k) rfl rfl (by omega) (by decide) dL_samples_368 ?_
      refine hh_seti (y := (yl_khe (T k))) ((hfh k (by omega)).symm) ?_
      refine lv_isub hx hb dL_samples_369 ?_
      refine lv_iconst (v := 1) hx hb dL_samples_370 (by decide) ?_
      refine lv_icmp_gt (tgt := 395) hx hb dL_samples_371 (by decide) (fun h9 => absurd h9 (hkh.2)) (fun _ => ?_)
      refine lv_goto (tgt := 391) hx hb dL_samples_374 (by decide) ?_
      refine lv_iconst (v := 1) hx hb dL_samples_391 (by decide) ?_
      refine lv_goto (tgt := 396) hx hb dL_samples_392 (by decide) ?_
      refine lv_istore (lv' := [(11, .int (1 : Int32)), (23, .int (1 : Int32)), (21, .long (yl_ksp (U k))), (20, .int (0 : Int32)), (18, .long (yl_lou (U k))), (16, .long (fw (20 * k + 6))), (14, .long (fw (20 * k + 5))), (13, .int (nI (20 * k))), (12, .int (nI k)), (0, .ref adB), (1, .ref adW), (2, .ref adU), (3, .ref adG), (4, .ref adN), (5, .int sa), (6, .ref t6), (7, .ref t7), (8, .ref t8), (9, .ref t9), (10, .ref t10)]) hx hb dL_samples_396 hl (by decide) rfl (fun ls hl => ?_)
      refine lv_iload hx hb dL_samples_398 (lv_at hl 0 rfl) ?_
      refine lv_if_eq (tgt := 460) hx hb dL_samples_400 (by decide) (fun h9 => absurd h9 (by decide)) (fun _ => ?_)
      refine lv_aload hx hb dL_samples_403 (lv_at hl 15 rfl) ?_
      refine lv_iload hx hb dL_samples_405 (lv_at hl 8 rfl) ?_
      refine lr_il hx hb hK hP 0 0 (e0 := k) rfl rfl (by omega) (by decide) dL_samples_407 ?_
      refine hh_seti (y := (yl_lmo (T k))) ((hfm k (by omega)).symm) ?_
      refine lv_if_ne (tgt := 431) hx hb dL_samples_408 (by decide) (fun _ => ?_) (fun h9 => absurd h9 ((by rw [hm]; decide)))
      refine lv_iload hx hb dL_samples_431 (lv_at hl 3 rfl) ?_
      refine lv_if_eq (tgt := 456) hx hb dL_samples_433 (by decide) (fun _ => ?_) (fun h9 => absurd h9 (by decide))
      refine lv_iconst (v := 1) hx hb dL_samples_456 (by decide) ?_
      refine lv_goto (tgt := 461) hx hb dL_samples_457 (by decide) ?_
      refine lv_istore (lv' := [(11, .int (1 : Int32)), (23, .int (1 : Int32)), (21, .long (yl_ksp (U k))), (20, .int (0 : Int32)), (18, .long (yl_lou (U k))), (16, .long (fw (20 * k + 6))), (14, .long (fw (20 * k + 5))), (13, .int (nI (20 * k))), (12, .int (nI k)), (0, .ref adB), (1, .ref adW), (2, .ref adU), (3, .ref adG), (4, .ref adN), (5, .int sa), (6, .ref t6), (7, .ref t7), (8, .ref t8), (9, .ref t9), (10, .ref t10)]) hx hb dL_samples_461 hl (by decide) rfl (fun ls hl => ?_)
      refine lv_aload hx hb dL_samples_463 (lv_at hl 15 rfl) ?_
      refine lv_iload hx hb dL_samples_465 (lv_at hl 8 rfl) ?_
      refine lr_il hx hb hK hP 0 0 (e0 := k) rfl rfl (by omega) (by decide) dL_samples_467 ?_
      refine hh_seti (y := (yl_lmo (T k))) ((hfm k (by omega)).symm) ?_
      refine lv_iconst (v := 3) hx hb dL_samples_468 (by decide) ?_
      refine lv_icmp_ne (tgt := 511) hx hb dL_samples_469 (by decide) (fun _ => ?_) (fun h9 => absurd h9 ((by rw [hm]; decide)))
      refine lv_iload hx hb dL_samples_511 (lv_at hl 0 rfl) ?_
      refine lv_if_eq (tgt := 548) hx hb dL_samples_513 (by decide) (fun h9 => absurd h9 (by decide)) (fun _ => ?_)
      refine lv_aload_n hx hb dL_samples_516 rfl (lv_at hl 9 rfl) ?_
      refine lv_iload hx hb dL_samples_517 (lv_at hl 8 rfl) ?_
      refine s_mode (k := k)  K hk  ⟨Nat.le_trans (Nat.le_of_ble_eq_true rfl) hR.1, Nat.le_trans (Nat.le_of_ble_eq_true rfl) hR.2⟩ hcs (Nat.le_of_ble_eq_true rfl) hP hD hS hA hl.1 dL_samples_519 (fun H locs hP hD hS => ?_)
      refine hh_seti (y := (yl_lmo (U k))) (rfl) ?_
      refine lv_aload hx hb dL_samples_522 (lv_at hl 15 rfl) ?_
      refine lv_iload hx hb dL_samples_524 (lv_at hl 8 rfl) ?_
      refine lr_il hx hb hK hP 0 0 (e0 := k) rfl rfl (by omega) (by decide) dL_samples_526 ?_
      refine hh_seti (y := (yl_lmo (T k))) ((hfm k (by omega)).symm) ?_
      refine lv_icmp_ne (tgt := 548) hx hb dL_samples_527 (by decide) (fun h9 => absurd (hmx.1) h9) (fun _ => ?_)
      refine lv_aload_n hx hb dL_samples_530 rfl (lv_at hl 9 rfl) ?_
      refine lv_iload hx hb dL_samples_531 (lv_at hl 8 rfl) ?_
      refine s_experiment (k := k)  K hk  ⟨Nat.le_trans (Nat.le_of_ble_eq_true rfl) hR.1, Nat.le_trans (Nat.le_of_ble_eq_true rfl) hR.2⟩ hcs (Nat.le_of_ble_eq_true rfl) hP hD hS hA hl.1 dL_samples_533 (fun H locs hP hD hS => ?_)
      refine hh_seti (y := (yl_rpr (U k))) (rfl) ?_
      refine lv_aload hx hb dL_samples_536 (lv_at hl 17 rfl) ?_
      refine lv_iload hx hb dL_samples_538 (lv_at hl 8 rfl) ?_
      refine lr_il hx hb hK hP 2 0 (e0 := k) rfl rfl (by omega) (by decide) dL_samples_540 ?_
      refine hh_seti (y := (yl_rpr (T k))) ((hfs k (by omega)).symm) ?_
      refine lv_icmp_ne (tgt := 548) hx hb dL_samples_541 (by decide) (fun h9 => absurd (hmx.2) h9) (fun _ => ?_)
      refine lv_iconst (v := 1) hx hb dL_samples_544 (by decide) ?_
      refine lv_goto (tgt := 549) hx hb dL_samples_545 (by decide) ?_
      refine lv_istore (lv' := [(11, .int (1 : Int32)), (23, .int (1 : Int32)), (21, .long (yl_ksp (U k))), (20, .int (0 : Int32)), (18, .long (yl_lou (U k))), (16, .long (fw (20 * k + 6))), (14, .long (fw (20 * k + 5))), (13, .int (nI (20 * k))), (12, .int (nI k)), (0, .ref adB), (1, .ref adW), (2, .ref adU), (3, .ref adG), (4, .ref adN), (5, .int sa), (6, .ref t6), (7, .ref t7), (8, .ref t8), (9, .ref t9), (10, .ref t10)]) hx hb dL_samples_549 hl (by decide) rfl (fun ls hl => ?_)
      refine lv_iload hx hb dL_samples_551 (lv_at hl 1 rfl) ?_
      refine lv_if_eq (tgt := 637) hx hb dL_samples_553 (by decide) (fun h9 => absurd h9 (by decide)) (fun _ => ?_)
      refine lv_aload_n hx hb dL_samples_556 rfl (lv_at hl 10 rfl) ?_
      refine lv_iload hx hb dL_samples_557 (lv_at hl 7 rfl) ?_
      refine lv_bipush (v := 15) hx hb dL_samples_559 (by decide) ?_
      refine lv_iadd hx hb dL_samples_561 ?_
      refine hh_seti (y := (nI (20 * k + 15))) (lwAdd (a := 20 * k) (b := 15) (by omega)) ?_
      refine lv_aload hx hb dL_samples_562 (lv_at hl 15 rfl) ?_
      refine lv_iload hx hb dL_samples_564 (lv_at hl 8 rfl) ?_
      refine lr_il hx hb hK hP 0 0 (e0 := k) rfl rfl (by omega) (by decide) dL_samples_566 ?_
      refine hh_seti (y := (yl_lmo (T k))) ((hfm k (by omega)).symm) ?_
      refine lv_iconst (v := 1) hx hb dL_samples_567 (by decide) ?_
      refine lv_icmp_ne (tgt := 581) hx hb dL_samples_568 (by decide) (fun _ => ?_) (fun h9 => absurd h9 ((by rw [hm]; decide)))
      refine lv_lconst (v := 0) hx hb dL_samples_581 (by decide) ?_
      refine lr_ls hx hb hK hP hD hS 5 1 (e0 := 20 * k + 15) rfl rfl (by omega) (by decide) dL_samples_582 (w1 := ([zAI cI t6 3 fm, zAI cI t7 3 fh, zAI cI t8 3 fs, zAJ cJ t9 3 fy, zAJ cJ t10 3 fp, zAJ cJ adW 60 (vp_updL fw (20 * k + 15) (0 : Int64)), zAJ cJ adU 33 fu, zAJ cJ adG 60 fg, zAI cI adN 6 fn] ++ wB cI cJ cO adB adA lf bs a U)) rfl (fun H locs hP hD hS => ?_)
      refine lv_iload hx hb dL_samples_583 (lv_at hl 0 rfl) ?_
      refine lv_if_eq (tgt := 634) hx hb dL_samples_585 (by decide) (fun h9 => absurd h9 (by decide)) (fun _ => ?_)
      refine lv_aload_n hx hb dL_samples_588 rfl (lv_at hl 9 rfl) ?_
      refine lv_aload_n hx hb dL_samples_589 rfl (lv_at hl 10 rfl) ?_
      refine lv_aload_n hx hb dL_samples_590 rfl (lv_at hl 12 rfl) ?_
      refine lv_aload hx hb dL_samples_591 (lv_at hl 13 rfl) ?_
      refine lv_iload hx hb dL_samples_593 (lv_at hl 8 rfl) ?_
      refine lv_lload hx hb dL_samples_595 (lv_at hl 2 rfl) ?_
      refine lv_aload hx hb dL_samples_597 (lv_at hl 18 rfl) ?_
      refine lv_iload hx hb dL_samples_599 (lv_at hl 8 rfl) ?_
      refine lr_ll hx hb hK hP 3 1 (e0 := k) rfl rfl (by omega) (by decide) dL_samples_601 ?_
      refine hh_setl (y := (yl_pme (T k))) ((hfy k (by omega)).symm) ?_
      refine lv_lsub hx hb dL_samples_602 ?_
      refine lv_lload hx hb dL_samples_603 (lv_at hl 4 rfl) ?_
      refine lv_aload_n hx hb dL_samples_605 rfl (lv_at hl 9 rfl) ?_
      refine lv_iload hx hb dL_samples_606 (lv_at hl 8 rfl) ?_
      refine s_held (k := k)  K hk  ⟨Nat.le_trans (Nat.le_of_ble_eq_true rfl) hR.1, Nat.le_trans (Nat.le_of_ble_eq_true rfl) hR.2⟩ hcs (Nat.le_of_ble_eq_true rfl) hP hD hS hA hl.1 dL_samples_608 (fun H locs hP hD hS => ?_)
      refine hh_seti (y := (yl_khe (U k))) (rfl) ?_
      refine lv_aload hx hb dL_samples_611 (lv_at hl 16 rfl) ?_
      refine lv_iload hx hb dL_samples_613 (lv_at hl 8 rfl) ?_
      refine lr_il hx hb hK hP 1 0 (e0 := k) rfl rfl (by omega) (by decide) dL_samples_615 ?_
      refine hh_seti (y := (yl_khe (T k))) ((hfh k (by omega)).symm) ?_
      refine lv_icmp_ne (tgt := 623) hx hb dL_samples_616 (by decide) (fun hfr => ?_) (fun hfr => ?_)
      · skip
        refine lv_iconst (v := 0) hx hb dL_samples_623 (by decide) ?_
        refine lw_RS (S := Nat → Int64) (wl := [zAI cI t6 3 fm, zAI cI t7 3 fh, zAI cI t8 3 fs, zAJ cJ t9 3 fy, zAJ cJ t10 3 fp]) (wr := ([zAJ cJ adW 60 (vp_updL fw (20 * k + 15) (0 : Int64)), zAJ cJ adU 33 fu, zAJ cJ adG 60 fg, zAI cI adN 6 fn] ++ wB cI cJ cO adB adA lf bs a U)) (wq := fun u => ([zAJ cJ adW 60 u, zAJ cJ adU 33 fu, zAJ cJ adG 60 fg, zAI cI adN 6 fn] ++ wB cI cJ cO adB adA lf bs a U)) (rest := []) (va_runS (As := [.ref adB, .ref adW, .ref adG, .ref adN, .int (nI k), .long ((yl_ksp (U k)) - (yl_pme (T k))), .long (yl_lou (U k)), .int (0 : Int32)]) (rest := []) ⟨hx, hb, hml, hown, hts⟩ (c_L_isSum l dC dI cI cJ cZ cO adB adA adW adU adG adN lf a bs U (vp_updL fw (20 * k + 15) (0 : Int64)) fu fg fn k j ((yl_ksp (U k)) - (yl_pme (T k))) (yl_lou (U k)) (0 : Int32) _ hlf hk hj hnj hg0 hg1 hg2 (fun q => by rw [ul_eq] at q; exact absurd q (by decide)) (fun a9 b9 c9 => hqB (absurd rfl a9) b9 (Or.inr (by rw [ul_eq, ul_ne _ _ (by omega)] at c9; exact c9.resolve_left (by decide))))) (va_cwS 8 hts (gd_S wd_4_9 wd_4_10 wd_1_0 wd_4_11) rfl rfl rfl (by decide +kernel) ⟨Nat.le_trans (Nat.le_of_ble_eq_true rfl) hR.1, Nat.le_trans (Nat.le_of_ble_eq_true rfl) hR.2⟩) (lw_S2 (wl := [zAI cI t6 3 fm, zAI cI t7 3 fh, zAI cI t8 3 fs, zAJ cJ t9 3 fy, zAJ cJ t10 3 fp]) gN_c (fun U _ hW => gN_w hW hG) hK (List.Perm.refl _) hP hD) rfl rfl hl.1 rfl (lv_room (Nat.le_of_ble_eq_true rfl)) dL_samples_624 hcs) hP hD hS hA (fun r u H locs hpost hP hD hS => ?_)
        obtain ⟨rfl, hu1, hu2⟩ := hpost
        have hP : va_P (dC, dI) vwCl ([zAI cI t6 3 fm, zAI cI t7 3 fh, zAI cI t8 3 fs, zAJ cJ t9 3 fy, zAJ cJ t10 3 fp, zAJ cJ adW 60 u, zAJ cJ adU 33 fu, zAJ cJ adG 60 fg, zAI cI adN 6 fn] ++ wB cI cJ cO adB adA lf bs a U) H := hP
        have hD : va_D A ([zAI cI t6 3 fm, zAI cI t7 3 fh, zAI cI t8 3 fs, zAJ cJ t9 3 fy, zAJ cJ t10 3 fp, zAJ cJ adW 60 u, zAJ cJ adU 33 fu, zAJ cJ adG 60 fg, zAI cI adN 6 fn] ++ wB cI cJ cO adB adA lf bs a U) := hD
        rw [ul_eq, ul_ne _ _ (by omega)] at hu2
        refine lv_if_eq (tgt := 634) hx hb dL_samples_627 (by decide) (fun h9 => absurd h9 (by decide)) (fun _ => ?_)
        refine lv_iconst (v := 1) hx hb dL_samples_630 (by decide) ?_
        refine lv_goto (tgt := 635) hx hb dL_samples_631 (by decide) ?_
        refine lv_istore (lv' := [(11, .int (1 : Int32)), (23, .int (1 : Int32)), (21, .long (yl_ksp (U k))), (20, .int (0 : Int32)), (18, .long (yl_lou (U k))), (16, .long (fw (20 * k + 6))), (14, .long (fw (20 * k + 5))), (13, .int (nI (20 * k))), (12, .int (nI k)), (0, .ref adB), (1, .ref adW), (2, .ref adU), (3, .ref adG), (4, .ref adN), (5, .int sa), (6, .ref t6), (7, .ref t7), (8, .ref t8), (9, .ref t9), (10, .ref t10)]) hx hb dL_samples_635 hl (by decide) rfl (fun ls hl => ?_)
        have huw : ∀ i : Nat, ¬ i = 20 * k + 14 → ¬ i = 20 * k + 15 → u i = fw i := fun i h14 h15 => (hu1 i h14).trans (ul_ne _ _ h15)
        refine sm_tail1 (fw := u) (fm := fm) (fh := fh) (fs := fs) (fp := fp) (sa := sa) (ou := (yl_lou (U k))) K hk hfy (fun fwm fu2 a9 b9 => hme fwm fu2 a9 (fun i hi => (b9 i hi).trans (huw _ (by omega) (by omega)))) hR9 hcs hP hD hS hA (lv_sub hl [1, 4, 7, 8, 0, 9, 10, 11, 12, 13, 14, 15, 16, 17, 18, 19] rfl) (fun fw2 fu2 fn2 H locs ls hFW hFU hwf huf hnf hP hD hS hl => ?_)
        rw [hnf] at hP hD
        exact kk fw2 fu2 fn H locs ls (hRP fw2 fu2 _ (FW2_tr hFW (fun i hi h14 h15 => huw _ (by omega) (by omega))) hFU (Or.inl (hu2.trans (if_pos rfl)))) hFW.2.2.2 (fun i hi => (hwf i hi).trans (huw i (by omega) (by omega))) huf (fun _ _ => rfl) hP hD hS hl
      · skip
        refine lv_iconst (v := 1) hx hb dL_samples_619 (by decide) ?_
        refine lv_goto (tgt := 624) hx hb dL_samples_620 (by decide) ?_
        refine lw_RS (S := Nat → Int64) (wl := [zAI cI t6 3 fm, zAI cI t7 3 fh, zAI cI t8 3 fs, zAJ cJ t9 3 fy, zAJ cJ t10 3 fp]) (wr := ([zAJ cJ adW 60 (vp_updL fw (20 * k + 15) (0 : Int64)), zAJ cJ adU 33 fu, zAJ cJ adG 60 fg, zAI cI adN 6 fn] ++ wB cI cJ cO adB adA lf bs a U)) (wq := fun u => ([zAJ cJ adW 60 u, zAJ cJ adU 33 fu, zAJ cJ adG 60 fg, zAI cI adN 6 fn] ++ wB cI cJ cO adB adA lf bs a U)) (rest := []) (va_runS (As := [.ref adB, .ref adW, .ref adG, .ref adN, .int (nI k), .long ((yl_ksp (U k)) - (yl_pme (T k))), .long (yl_lou (U k)), .int (1 : Int32)]) (rest := []) ⟨hx, hb, hml, hown, hts⟩ (c_L_isSum l dC dI cI cJ cZ cO adB adA adW adU adG adN lf a bs U (vp_updL fw (20 * k + 15) (0 : Int64)) fu fg fn k j ((yl_ksp (U k)) - (yl_pme (T k))) (yl_lou (U k)) (1 : Int32) _ hlf hk hj hnj hg0 hg1 hg2 (fun q => by rw [ul_eq] at q; exact absurd q (by decide)) (fun a9 b9 c9 => hqB hfr b9 (Or.inr (by rw [ul_eq, ul_ne _ _ (by omega)] at c9; exact c9.resolve_left (by decide))))) (va_cwS 8 hts (gd_S wd_4_9 wd_4_10 wd_1_0 wd_4_11) rfl rfl rfl (by decide +kernel) ⟨Nat.le_trans (Nat.le_of_ble_eq_true rfl) hR.1, Nat.le_trans (Nat.le_of_ble_eq_true rfl) hR.2⟩) (lw_S2 (wl := [zAI cI t6 3 fm, zAI cI t7 3 fh, zAI cI t8 3 fs, zAJ cJ t9 3 fy, zAJ cJ t10 3 fp]) gN_c (fun U _ hW => gN_w hW hG) hK (List.Perm.refl _) hP hD) rfl rfl hl.1 rfl (lv_room (Nat.le_of_ble_eq_true rfl)) dL_samples_624 hcs) hP hD hS hA (fun r u H locs hpost hP hD hS => ?_)
        obtain ⟨rfl, hu1, hu2⟩ := hpost
        have hP : va_P (dC, dI) vwCl ([zAI cI t6 3 fm, zAI cI t7 3 fh, zAI cI t8 3 fs, zAJ cJ t9 3 fy, zAJ cJ t10 3 fp, zAJ cJ adW 60 u, zAJ cJ adU 33 fu, zAJ cJ adG 60 fg, zAI cI adN 6 fn] ++ wB cI cJ cO adB adA lf bs a U) H := hP
        have hD : va_D A ([zAI cI t6 3 fm, zAI cI t7 3 fh, zAI cI t8 3 fs, zAJ cJ t9 3 fy, zAJ cJ t10 3 fp, zAJ cJ adW 60 u, zAJ cJ adU 33 fu, zAJ cJ adG 60 fg, zAI cI adN 6 fn] ++ wB cI cJ cO adB adA lf bs a U) := hD
        rw [ul_eq, ul_ne _ _ (by omega)] at hu2
        refine lv_if_eq (tgt := 634) hx hb dL_samples_627 (by decide) (fun h9 => absurd h9 (by decide)) (fun _ => ?_)
        refine lv_iconst (v := 1) hx hb dL_samples_630 (by decide) ?_
        refine lv_goto (tgt := 635) hx hb dL_samples_631 (by decide) ?_
        refine lv_istore (lv' := [(11, .int (1 : Int32)), (23, .int (1 : Int32)), (21, .long (yl_ksp (U k))), (20, .int (0 : Int32)), (18, .long (yl_lou (U k))), (16, .long (fw (20 * k + 6))), (14, .long (fw (20 * k + 5))), (13, .int (nI (20 * k))), (12, .int (nI k)), (0, .ref adB), (1, .ref adW), (2, .ref adU), (3, .ref adG), (4, .ref adN), (5, .int sa), (6, .ref t6), (7, .ref t7), (8, .ref t8), (9, .ref t9), (10, .ref t10)]) hx hb dL_samples_635 hl (by decide) rfl (fun ls hl => ?_)
        have huw : ∀ i : Nat, ¬ i = 20 * k + 14 → ¬ i = 20 * k + 15 → u i = fw i := fun i h14 h15 => (hu1 i h14).trans (ul_ne _ _ h15)
        refine sm_tail1 (fw := u) (fm := fm) (fh := fh) (fs := fs) (fp := fp) (sa := sa) (ou := (yl_lou (U k))) K hk hfy (fun fwm fu2 a9 b9 => hme fwm fu2 a9 (fun i hi => (b9 i hi).trans (huw _ (by omega) (by omega)))) hR9 hcs hP hD hS hA (lv_sub hl [1, 4, 7, 8, 0, 9, 10, 11, 12, 13, 14, 15, 16, 17, 18, 19] rfl) (fun fw2 fu2 fn2 H locs ls hFW hFU hwf huf hnf hP hD hS hl => ?_)
        rw [hnf] at hP hD
        exact kk fw2 fu2 fn H locs ls (hRP fw2 fu2 _ (FW2_tr hFW (fun i hi h14 h15 => huw _ (by omega) (by omega))) hFU ((v14_1 h14 hu2).imp id (fun q => ⟨q.1, q.2.1, hfr, Or.inr (q.2.2.resolve_left (by decide))⟩))) hFW.2.2.2 (fun i hi => (hwf i hi).trans (huw i (by omega) (by omega))) huf (fun _ _ => rfl) hP hD hS hl
    refine lv_aload hx hb dL_samples_214 (lv_at hl 13 rfl) ?_
    refine lv_iload hx hb dL_samples_216 (lv_at hl 5 rfl) ?_
    refine lr_il hx hb hK hP 0 0 (e0 := k) rfl rfl (by omega) (by decide) dL_samples_218 ?_
    refine hh_seti (y := (yl_lmo (T k))) ((hfm k (by omega)).symm) ?_
    refine lv_iconst (v := 2) hx hb dL_samples_219 (by decide) ?_
    refine lv_icmp_ne (tgt := 234) hx hb dL_samples_220 (by decide) (fun h9 => absurd (hm) h9) (fun _ => ?_)
    refine lv_aload_n hx hb dL_samples_223 rfl (lv_at hl 7 rfl) ?_
    refine lv_iload hx hb dL_samples_224 (lv_at hl 5 rfl) ?_
    refine lv_iconst (v := 1) hx hb dL_samples_226 (by decide) ?_
    refine lv_isub hx hb dL_samples_227 ?_
    refine hh_seti (y := (nI ((k - 1)))) (lwSub (a := k) (b := 1) (by omega)) ?_
    refine s_output (k := (k - 1))  K (by omega)  ⟨Nat.le_trans (Nat.le_of_ble_eq_true rfl) hR.1, Nat.le_trans (Nat.le_of_ble_eq_true rfl) hR.2⟩ hcs (Nat.le_of_ble_eq_true rfl) hP hD hS hA hl.1 dL_samples_228 (fun H locs hP hD hS => ?_)
    refine hh_setl (y := (yl_lou (U ((k - 1))))) (rfl) ?_
    refine lv_goto (tgt := 267) hx hb dL_samples_231 (by decide) ?_
    refine hh_setl (y := (yl_ksp (U k))) (hsp) ?_
    exact J2 H locs ls hP hD hS (lv_sub hl [0, 1, 2, 3, 4, 5, 6, 7, 8, 9, 10, 11, 12, 13, 14, 15, 16, 17] rfl)
  refine lv_aload hx hb dL_samples_160 (lv_at hl 12 rfl) ?_
  refine lv_iload hx hb dL_samples_162 (lv_at hl 4 rfl) ?_
  refine lr_il hx hb hK hP 0 0 (e0 := k) rfl rfl (by omega) (by decide) dL_samples_164 ?_
  refine hh_seti (y := (yl_lmo (T k))) ((hfm k (by omega)).symm) ?_
  refine lv_iconst (v := 1) hx hb dL_samples_165 (by decide) ?_
  refine lv_icmp_eq (tgt := 178) hx hb dL_samples_166 (by decide) (fun h9 => absurd h9 ((by rw [hm]; decide))) (fun _ => ?_)
  refine lv_aload hx hb dL_samples_169 (lv_at hl 12 rfl) ?_
  refine lv_iload hx hb dL_samples_171 (lv_at hl 4 rfl) ?_
  refine lr_il hx hb hK hP 0 0 (e0 := k) rfl rfl (by omega) (by decide) dL_samples_173 ?_
  refine hh_seti (y := (yl_lmo (T k))) ((hfm k (by omega)).symm) ?_
  refine lv_iconst (v := 2) hx hb dL_samples_174 (by decide) ?_
  refine lv_icmp_ne (tgt := 211) hx hb dL_samples_175 (by decide) (fun h9 => absurd (hm) h9) (fun _ => ?_)
  refine lv_iload hx hb dL_samples_178 (lv_at hl 4 rfl) ?_
  refine lv_iconst (v := 2) hx hb dL_samples_180 (by decide) ?_
  refine lv_icmp_ge (tgt := 211) hx hb dL_samples_181 (by decide) (fun h181 => ?_) (fun h181 => ?_)
  · skip
    refine lv_iconst (v := 0) hx hb dL_samples_211 (by decide) ?_
    exact J1 H locs ls hP hD hS (lv_sub hl [0, 1, 2, 3, 4, 5, 6, 7, 8, 9, 10, 11, 12, 13, 14, 15, 16] rfl)
  · skip
    have hk2 := k2_of hk h181
    refine lv_aload_n hx hb dL_samples_184 rfl (lv_at hl 7 rfl) ?_
    refine lv_iload hx hb dL_samples_185 (lv_at hl 3 rfl) ?_
    refine lv_bipush (v := 29) hx hb dL_samples_187 (by decide) ?_
    refine lv_iadd hx hb dL_samples_189 ?_
    refine hh_seti (y := (nI (20 * k + 29))) (lwAdd (a := 20 * k) (b := 29) (by omega)) ?_
    refine lr_ll hx hb hK hP 5 1 (e0 := 20 * k + 29) rfl rfl (by omega) (by decide) dL_samples_190 ?_
    refine lv_lconst (v := 1) hx hb dL_samples_191 (by decide) ?_
    refine hh_cne (tgt := 211) hx hb dL_samples_192 dL_samples_193 (by decide) (fun h193 => ?_) (fun h193 => ?_)
    · skip
      refine lv_iconst (v := 0) hx hb dL_samples_211 (by decide) ?_
      exact J1 H locs ls hP hD hS (lv_sub hl [0, 1, 2, 3, 4, 5, 6, 7, 8, 9, 10, 11, 12, 13, 14, 15, 16] rfl)
    · skip
      refine lv_aload hx hb dL_samples_196 (lv_at hl 12 rfl) ?_
      refine lv_iload hx hb dL_samples_198 (lv_at hl 4 rfl) ?_
      refine lv_iconst (v := 1) hx hb dL_samples_200 (by decide) ?_
      refine lv_iadd hx hb dL_samples_201 ?_
      refine hh_seti (y := (nI (k + 1))) (lwAdd (a := k) (b := 1) (by omega)) ?_
      refine lr_il hx hb hK hP 0 0 (e0 := k + 1) rfl rfl (by omega) (by decide) dL_samples_202 ?_
      refine hh_seti (y := (yl_lmo (T (k + 1)))) ((hfm (k + 1) (by omega)).symm) ?_
      refine lv_iconst (v := 2) hx hb dL_samples_203 (by decide) ?_
      refine lv_icmp_eq (tgt := 211) hx hb dL_samples_204 (by decide) (fun _ => ?_) (fun h9 => absurd (hns (k2_of hk h181) h193) h9)
      refine lv_iconst (v := 0) hx hb dL_samples_211 (by decide) ?_
      exact J1 H locs ls hP hD hS (lv_sub hl [0, 1, 2, 3, 4, 5, 6, 7, 8, 9, 10, 11, 12, 13, 14, 15, 16] rfl)
end SK
