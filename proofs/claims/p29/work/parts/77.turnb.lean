section BT
variable {p : Program} {l : Launch} {e : Env} {R : Room} {s : State} {m : MethodId} {args : Array Value} {below : List Frame} {meth : Method} {c : Code} {H : Heap} {locs : List Loc} {cells slots k : Nat} {Q : State → Prop} {ls : Array Slot}
variable {dC : Nat → ClassId} {dI : Nat → Nat → Nat} {cI cJ cZ cO : ClassId} {adB adA adW adU adG adN : Nat} {lf : Nat → Option Nat} {bs : Int32} {a : Nat → AT} {T U : Nat → LT} {A : Nat → Prop} {fw fu fg : Nat → Int64} {fn : Nat → Int32}
variable {b L fr : Nat} {xs : Nat → Int32}
theorem bn_rp {k : Nat} {T T2 : Nat → LT} {fw fu fg fw2 fg2 : Nat → Int64} {fn fn2 : Nat → Int32} (hk : k < 3) (h : ∀ j : Nat, j < 3 → RP j (T j) fw fu fg fn) (h2 : SPost k T fw fu fg fn fw2 fg2 fn2 T2) : ∀ j : Nat, j < 3 → RP j (T2 j) fw2 fu fg2 fn2 := by
  intro j hj
  obtain ⟨a1, a2, a3, a4⟩ := h2
  by_cases c : j = k
  · subst c; exact a1
  · rw [a2 j c]
    exact RP_frame (h j hj) (fun i hi => (a3 _ (by omega)).1) (fun _ _ => rfl) (fun i hi => (a3 _ (by omega)).2) (a4 j c (by omega)) (a4 (j + 3) (by omega) (by omega))
set_option maxHeartbeats 4000000 in
theorem bn_loop (K : FX p s m c cL_bench 13 args (dC, dI) cI cJ cZ cO lf a) (hGX : gX b L xs s) (hbA : ¬ A b) (hL : L ≤ 260) (hfr : fr ≤ 270) (hR : 9 ≤ R.frames ∧ 226 ≤ R.locals) (hc : cells + 26400 ≤ R.cells ∧ slots + 79200 ≤ R.slots) (hA : ∀ q : Nat, s.heap.size ≤ q → A q)
    (kk : ∀ (H : Heap) (locs : List Loc) (ls : Array Slot), va_S A s.heap H locs → ls.size = 13 → W p l e R s m args below meth c H locs (cells + 600 * 44) (slots + 1800 * 44) Q (F0 m 242 ls [])) :
    ∀ (d i : Nat), i + d = 44 → ∀ (fw fu fg : Nat → Int64) (fn : Nat → Int32) (bs : Int32) (T : Nat → LT) (H : Heap) (locs : List Loc) (ls : Array Slot), (∀ j : Nat, j < 3 → RP j (T j) fw fu fg fn) → (∀ j : Nat, j < 3 → fw (20 * j + 15) = 0) → va_P (dC, dI) vwCl ([zAJ cJ adW 60 fw, zAJ cJ adU 33 fu, zAJ cJ adG 60 fg, zAI cI adN 6 fn] ++ wB cI cJ cO adB adA lf bs a T) H → va_D A ([zAJ cJ adW 60 fw, zAJ cJ adU 33 fu, zAJ cJ adG 60 fg, zAI cI adN 6 fn] ++ wB cI cJ cO adB adA lf bs a T) → va_S A s.heap H locs → lv_has ls 13 [(8, .int (nI i)), (7, .int bs), (6, .ref adN), (5, .ref adG), (4, .ref adU), (3, .ref adW), (2, .ref adB), (0, .ref b), (1, .int (nI fr))] → W p l e R s m args below meth c H locs (cells + 600 * i) (slots + 1800 * i) Q (F0 m 87 ls []) := by
  obtain ⟨hx, hb, hml, hown, hts, hG, hK, hlf⟩ := id K
  have hR9 : 9 ≤ R.frames ∧ 226 ≤ R.locals := ⟨Nat.le_trans (Nat.le_of_ble_eq_true rfl) hR.1, Nat.le_trans (Nat.le_of_ble_eq_true rfl) hR.2⟩
  intro d
  induction d with
  | zero =>
    intro i hi fw fu fg fn bs T H locs ls hRP h15 hP hD hS hl
    refine lv_iload hx hb dL_bench_87 (lv_at hl 0 rfl) ?_
    refine lv_bipush (v := 44) hx hb dL_bench_89 (by decide) ?_
    refine lv_icmp_ge (tgt := 242) hx hb dL_bench_91 (by decide) (fun _ => ?_) (fun h9 => absurd ((nI_leI (a := 44) (b := i) (by omega) (by omega)).mpr (by omega)) h9)
    obtain rfl : i = 44 := by omega
    exact kk H locs ls hS hl.1
  | succ d ih =>
    intro i hi fw fu fg fn bs T H locs ls hRP h15 hP hD hS hl
    have hcs : cells + 600 * i ≤ R.cells ∧ slots + 1800 * i ≤ R.slots := ⟨Nat.le_trans (by omega) hc.1, Nat.le_trans (by omega) hc.2⟩
    refine lv_iload hx hb dL_bench_87 (lv_at hl 0 rfl) ?_
    refine lv_bipush (v := 44) hx hb dL_bench_89 (by decide) ?_
    refine lv_icmp_ge (tgt := 242) hx hb dL_bench_91 (by decide) (fun h9 => absurd h9 (fun q9 => absurd ((nI_leI (a := 44) (b := i) (by omega) (by omega)).mp q9) (by omega))) (fun _ => ?_)
    refine lv_aload_n hx hb dL_bench_94 rfl (lv_at hl 7 rfl) ?_
    refine lv_iload_n hx hb dL_bench_95 rfl (lv_at hl 8 rfl) ?_
    refine lv_iconst (v := 3) hx hb dL_bench_96 (by decide) ?_
    refine lv_iload hx hb dL_bench_97 (lv_at hl 0 rfl) ?_
    refine lv_imul hx hb dL_bench_99 ?_
    refine hh_seti (y := (nI (3 * i))) (lwMul (a := 3) (b := i) (by omega)) ?_
    refine lv_iadd hx hb dL_bench_100 ?_
    refine hh_seti (y := (nI (fr + 3 * i))) (lwAdd (a := fr) (b := 3 * i) (by omega)) ?_
    refine lv_iconst (v := 1) hx hb dL_bench_101 (by decide) ?_
    refine lv_iadd hx hb dL_bench_102 ?_
    refine hh_seti (y := (nI (fr + 3 * i + 1))) (lwAdd (a := fr + 3 * i) (b := 1) (by omega)) ?_
    refine lv_ldc (v := 1073741824) hx hb hown (hts _ wd_2_24) dL_bench_103 ?_
    refine hh_seti (y := nI 1073741824) rfl ?_
    refine lw_Er (post := fun r _ => ∃ j : Nat, j < 1073741824 ∧ r = nI j) (rest := []) (va_runS (As := [.ref b, .int (nI (fr + 3 * i + 1)), .int (nI 1073741824)]) (rest := []) ⟨hx, hb, hml, hown, hts⟩ (c_L_draw l dC dI cI cJ cZ cO b L xs (fr + 3 * i + 1) 1073741824 _ hL (by omega) (by decide) (by decide)) (va_cwS 3 hts (gd_S wd_2_25 wd_2_26 wd_1_0 wd_2_27) rfl rfl rfl (by decide +kernel) ⟨Nat.le_trans (Nat.le_of_ble_eq_true rfl) hR.1, Nat.le_trans (Nat.le_of_ble_eq_true rfl) hR.2⟩) (lw_S0 gX_c (fun U hU hW => gX_w hS hbA hGX hU hW) hK) rfl rfl hl.1 rfl (lv_room (Nat.le_of_ble_eq_true rfl)) dL_bench_105 hcs) hP hD hS hA (fun r H locs hpost hP hD hS => ?_)
    obtain ⟨X, hX, rfl⟩ := hpost
    refine lv_istore (lv' := [(9, .int (nI X)), (8, .int (nI i)), (7, .int bs), (6, .ref adN), (5, .ref adG), (4, .ref adU), (3, .ref adW), (2, .ref adB), (0, .ref b), (1, .int (nI fr))]) hx hb dL_bench_108 hl (by decide) rfl (fun ls hl => ?_)
    refine lv_aload_n hx hb dL_bench_110 rfl (lv_at hl 8 rfl) ?_
    refine lv_iload_n hx hb dL_bench_111 rfl (lv_at hl 9 rfl) ?_
    refine lv_iconst (v := 3) hx hb dL_bench_112 (by decide) ?_
    refine lv_iload hx hb dL_bench_113 (lv_at hl 1 rfl) ?_
    refine lv_imul hx hb dL_bench_115 ?_
    refine hh_seti (y := (nI (3 * i))) (lwMul (a := 3) (b := i) (by omega)) ?_
    refine lv_iadd hx hb dL_bench_116 ?_
    refine hh_seti (y := (nI (fr + 3 * i))) (lwAdd (a := fr) (b := 3 * i) (by omega)) ?_
    refine lv_iconst (v := 2) hx hb dL_bench_117 (by decide) ?_
    refine lv_iadd hx hb dL_bench_118 ?_
    refine hh_seti (y := (nI (fr + 3 * i + 2))) (lwAdd (a := fr + 3 * i) (b := 2) (by omega)) ?_
    refine lv_ldc (v := 1073741824) hx hb hown (hts _ wd_2_24) dL_bench_119 ?_
    refine hh_seti (y := nI 1073741824) rfl ?_
    refine lw_Er (post := fun r _ => ∃ j : Nat, j < 1073741824 ∧ r = nI j) (rest := []) (va_runS (As := [.ref b, .int (nI (fr + 3 * i + 2)), .int (nI 1073741824)]) (rest := []) ⟨hx, hb, hml, hown, hts⟩ (c_L_draw l dC dI cI cJ cZ cO b L xs (fr + 3 * i + 2) 1073741824 _ hL (by omega) (by decide) (by decide)) (va_cwS 3 hts (gd_S wd_2_25 wd_2_26 wd_1_0 wd_2_27) rfl rfl rfl (by decide +kernel) ⟨Nat.le_trans (Nat.le_of_ble_eq_true rfl) hR.1, Nat.le_trans (Nat.le_of_ble_eq_true rfl) hR.2⟩) (lw_S0 gX_c (fun U hU hW => gX_w hS hbA hGX hU hW) hK) rfl rfl hl.1 rfl (lv_room (Nat.le_of_ble_eq_true rfl)) dL_bench_121 hcs) hP hD hS hA (fun r H locs hpost hP hD hS => ?_)
    obtain ⟨Y, hY, rfl⟩ := hpost
    refine lv_istore (lv' := [(10, .int (nI Y)), (9, .int (nI X)), (8, .int (nI i)), (7, .int bs), (6, .ref adN), (5, .ref adG), (4, .ref adU), (3, .ref adW), (2, .ref adB), (0, .ref b), (1, .int (nI fr))]) hx hb dL_bench_124 hl (by decide) rfl (fun ls hl => ?_)
    refine lv_aload_n hx hb dL_bench_126 rfl (lv_at hl 8 rfl) ?_
    refine lv_iload hx hb dL_bench_127 (lv_at hl 2 rfl) ?_
    refine lv_bipush (v := 6) hx hb dL_bench_129 (by decide) ?_
    refine lv_icmp_ge (tgt := 144) hx hb dL_bench_131 (by decide) (fun h131 => ?_) (fun h131 => ?_)
    · skip
      refine lv_aload_n hx hb dL_bench_144 rfl (lv_at hl 9 rfl) ?_
      refine lv_iload_n hx hb dL_bench_145 rfl (lv_at hl 10 rfl) ?_
      refine lv_iconst (v := 3) hx hb dL_bench_146 (by decide) ?_
      refine lv_iload hx hb dL_bench_147 (lv_at hl 2 rfl) ?_
      refine lv_imul hx hb dL_bench_149 ?_
      refine hh_seti (y := (nI (3 * i))) (lwMul (a := 3) (b := i) (by omega)) ?_
      refine lv_iadd hx hb dL_bench_150 ?_
      refine hh_seti (y := (nI (fr + 3 * i))) (lwAdd (a := fr) (b := 3 * i) (by omega)) ?_
      refine lv_bipush (v := 14) hx hb dL_bench_151 (by decide) ?_
      refine hh_seti (y := nI 14) rfl ?_
      refine lw_Er (post := fun r _ => ∃ j : Nat, j < 14 ∧ r = nI j) (rest := [.ref adB]) (va_runS (As := [.ref b, .int (nI (fr + 3 * i)), .int (nI 14)]) (rest := [.ref adB]) ⟨hx, hb, hml, hown, hts⟩ (c_L_draw l dC dI cI cJ cZ cO b L xs (fr + 3 * i) 14 _ hL (by omega) (by decide) (by decide)) (va_cwS 3 hts (gd_S wd_2_25 wd_2_26 wd_1_0 wd_2_27) rfl rfl rfl (by decide +kernel) ⟨Nat.le_trans (Nat.le_of_ble_eq_true rfl) hR.1, Nat.le_trans (Nat.le_of_ble_eq_true rfl) hR.2⟩) (lw_S0 gX_c (fun U hU hW => gX_w hS hbA hGX hU hW) hK) rfl rfl hl.1 rfl (lv_room (Nat.le_of_ble_eq_true rfl)) dL_bench_153 hcs) hP hD hS hA (fun r H locs hpost hP hD hS => ?_)
      obtain ⟨w, hw, rfl⟩ := hpost
      refine lv_iload hx hb dL_bench_156 (lv_at hl 1 rfl) ?_
      refine lv_iload hx hb dL_bench_158 (lv_at hl 0 rfl) ?_
      refine lv_aload_n hx hb dL_bench_160 rfl (lv_at hl 7 rfl) ?_
      refine lv_aload hx hb dL_bench_161 (lv_at hl 5 rfl) ?_
      refine lv_aload hx hb dL_bench_163 (lv_at hl 4 rfl) ?_
      refine lw_RS (S := (Nat → Int64) × (Nat → Int64) × (Nat → Int32) × (Nat → LT)) (wl := []) (wr := ([zAJ cJ adW 60 fw, zAJ cJ adU 33 fu, zAJ cJ adG 60 fg, zAI cI adN 6 fn] ++ wB cI cJ cO adB adA lf bs a T)) (wq := fun u => ([zAJ cJ adW 60 u.1, zAJ cJ adU 33 fu, zAJ cJ adG 60 u.2.1, zAI cI adN 6 u.2.2.1] ++ wB cI cJ cO adB adA lf bs a u.2.2.2)) (rest := []) (va_runS (As := [.ref adB, .int (nI w), .int (nI X), .int (nI Y), .ref adW, .ref adG, .ref adN]) (rest := []) ⟨hx, hb, hml, hown, hts⟩ (c_L_step l dC dI cI cJ cZ cO adB adA adW adU adG adN lf a bs T fw fu fg fn (X % 3) X Y (w) _ hlf (Nat.mod_lt _ (by decide)) rfl hX hY (hRP _ (Nat.mod_lt _ (by decide))) (h15 _ (Nat.mod_lt _ (by decide))) (by omega)) (va_cwS 7 hts (gd_S wd_2_31 wd_2_32 wd_1_0 wd_2_33) rfl rfl rfl (by decide +kernel) ⟨Nat.le_trans (Nat.le_of_ble_eq_true rfl) hR.1, Nat.le_trans (Nat.le_of_ble_eq_true rfl) hR.2⟩) (lw_S2 (wl := []) gN_c (fun U _ hW => gN_w hW hG) hK (List.Perm.refl _) hP hD) rfl rfl hl.1 rfl (lv_room (Nat.le_of_ble_eq_true rfl)) dL_bench_165 hcs) hP hD hS hA (fun r u H locs hpost hP hD hS => ?_)
      obtain ⟨rfl, hsp1, hsp2, hsp3, hsp4⟩ := hpost
      have hP : va_P (dC, dI) vwCl ([zAJ cJ adW 60 u.1, zAJ cJ adU 33 fu, zAJ cJ adG 60 u.2.1, zAI cI adN 6 u.2.2.1] ++ wB cI cJ cO adB adA lf bs a u.2.2.2) H := hP
      have hD : va_D A ([zAJ cJ adW 60 u.1, zAJ cJ adU 33 fu, zAJ cJ adG 60 u.2.1, zAI cI adN 6 u.2.2.1] ++ wB cI cJ cO adB adA lf bs a u.2.2.2) := hD
      have hRP : ∀ j : Nat, j < 3 → RP j (u.2.2.2 j) u.1 fu u.2.1 u.2.2.1 := bn_rp (Nat.mod_lt _ (by decide)) hRP ⟨hsp1, hsp2, hsp3, hsp4⟩
      refine lv_if_ne (tgt := 173) hx hb dL_bench_168 (by decide) (fun _ => ?_) (fun h9 => absurd h9 (by decide))
      refine lv_iload hx hb dL_bench_173 (lv_at hl 0 rfl) ?_
      refine lv_bipush (v := 7) hx hb dL_bench_175 (by decide) ?_
      refine lv_irem hx hb dL_bench_177 (by decide) ?_
      refine hh_seti (y := (nI ((Y % 7)))) (lwMod (a := Y) (b := 7) (by omega) (by decide) (by decide) rfl) ?_
      refine lv_if_ne (tgt := 191) hx hb dL_bench_178 (by decide) (fun h178 => ?_) (fun h178 => ?_)
      · skip
        refine lv_iconst (v := 1) hx hb dL_bench_191 (by decide) ?_
        refine lv_iload hx hb dL_bench_192 (lv_at hl 1 rfl) ?_
        refine lv_iconst (v := 5) hx hb dL_bench_194 (by decide) ?_
        refine lv_irem hx hb dL_bench_195 (by decide) ?_
        refine hh_seti (y := (nI ((X % 5)))) (lwMod (a := X) (b := 5) (by omega) (by decide) (by decide) rfl) ?_
        refine lv_iadd hx hb dL_bench_196 ?_
        refine hh_seti (y := (nI ((X % 5) + 1))) (lwAdd (a := 1) (b := (X % 5)) (by omega)) ?_
        refine lv_istore (lv' := [(11, .int (nI ((X % 5) + 1))), (10, .int (nI Y)), (9, .int (nI X)), (8, .int (nI i)), (7, .int bs), (6, .ref adN), (5, .ref adG), (4, .ref adU), (3, .ref adW), (2, .ref adB), (0, .ref b), (1, .int (nI fr))]) hx hb dL_bench_197 hl (by decide) rfl (fun ls hl => ?_)
        refine lv_iconst (v := 0) hx hb dL_bench_199 (by decide) ?_
        refine hh_seti (y := nI 0) rfl ?_
        refine lv_istore (lv' := [(12, .int (nI 0)), (11, .int (nI ((X % 5) + 1))), (10, .int (nI Y)), (9, .int (nI X)), (8, .int (nI i)), (7, .int bs), (6, .ref adN), (5, .ref adG), (4, .ref adU), (3, .ref adW), (2, .ref adB), (0, .ref b), (1, .int (nI fr))]) hx hb dL_bench_200 hl (by decide) rfl (fun ls hl => ?_)
        refine bn_inner (fr := fr) (b := b) (n := (X % 5) + 1) (i := i) (x9 := nI X) (y10 := nI Y) (cells := cells + 600 * i) (slots := slots + 1800 * i) K hR9 (by omega) (by omega) ⟨Nat.le_trans (by omega) hc.1, Nat.le_trans (by omega) hc.2⟩ hA (fun fw fu fn bs T H locs ls hRP h15 hP hD hS hl => ?_) ((X % 5) + 1) 0 (by omega) _ _ _ _ _ H locs ls hRP (Or.inl rfl) hP hD hS (lv_sub hl [0, 1, 2, 3, 4, 5, 6, 7, 8, 9, 10, 11, 12] rfl)
        refine lv_iinc (v := nI (i + 1)) (lv' := [(8, .int (nI (i + 1))), (7, .int bs), (6, .ref adN), (5, .ref adG), (4, .ref adU), (3, .ref adW), (2, .ref adB), (0, .ref b), (1, .int (nI fr))]) hx hb dL_bench_236 hl (k := 0) rfl (nI_add (i) 1) (by decide) rfl (fun ls hl => ?_)
        refine lv_goto (tgt := 87) hx hb dL_bench_239 (by decide) ?_
        refine W.widen (k := cells + 600 * (i + 1)) (n := slots + 1800 * (i + 1)) (by omega) (by omega) ?_
        exact ih (i + 1) (by omega) _ _ _ _ _ _ H locs ls hRP h15 hP hD hS hl
      · skip
        refine lv_iconst (v := 1) hx hb dL_bench_181 (by decide) ?_
        refine lv_iload hx hb dL_bench_182 (lv_at hl 1 rfl) ?_
        refine lv_bipush (v := 120) hx hb dL_bench_184 (by decide) ?_
        refine lv_irem hx hb dL_bench_186 (by decide) ?_
        refine hh_seti (y := (nI ((X % 120)))) (lwMod (a := X) (b := 120) (by omega) (by decide) (by decide) rfl) ?_
        refine lv_iadd hx hb dL_bench_187 ?_
        refine hh_seti (y := (nI ((X % 120) + 1))) (lwAdd (a := 1) (b := (X % 120)) (by omega)) ?_
        refine lv_goto (tgt := 197) hx hb dL_bench_188 (by decide) ?_
        refine lv_istore (lv' := [(11, .int (nI ((X % 120) + 1))), (10, .int (nI Y)), (9, .int (nI X)), (8, .int (nI i)), (7, .int bs), (6, .ref adN), (5, .ref adG), (4, .ref adU), (3, .ref adW), (2, .ref adB), (0, .ref b), (1, .int (nI fr))]) hx hb dL_bench_197 hl (by decide) rfl (fun ls hl => ?_)
        refine lv_iconst (v := 0) hx hb dL_bench_199 (by decide) ?_
        refine hh_seti (y := nI 0) rfl ?_
        refine lv_istore (lv' := [(12, .int (nI 0)), (11, .int (nI ((X % 120) + 1))), (10, .int (nI Y)), (9, .int (nI X)), (8, .int (nI i)), (7, .int bs), (6, .ref adN), (5, .ref adG), (4, .ref adU), (3, .ref adW), (2, .ref adB), (0, .ref b), (1, .int (nI fr))]) hx hb dL_bench_200 hl (by decide) rfl (fun ls hl => ?_)
        refine bn_inner (fr := fr) (b := b) (n := (X % 120) + 1) (i := i) (x9 := nI X) (y10 := nI Y) (cells := cells + 600 * i) (slots := slots + 1800 * i) K hR9 (by omega) (by omega) ⟨Nat.le_trans (by omega) hc.1, Nat.le_trans (by omega) hc.2⟩ hA (fun fw fu fn bs T H locs ls hRP h15 hP hD hS hl => ?_) ((X % 120) + 1) 0 (by omega) _ _ _ _ _ H locs ls hRP (Or.inl rfl) hP hD hS (lv_sub hl [0, 1, 2, 3, 4, 5, 6, 7, 8, 9, 10, 11, 12] rfl)
        refine lv_iinc (v := nI (i + 1)) (lv' := [(8, .int (nI (i + 1))), (7, .int bs), (6, .ref adN), (5, .ref adG), (4, .ref adU), (3, .ref adW), (2, .ref adB), (0, .ref b), (1, .int (nI fr))]) hx hb dL_bench_236 hl (k := 0) rfl (nI_add (i) 1) (by decide) rfl (fun ls hl => ?_)
        refine lv_goto (tgt := 87) hx hb dL_bench_239 (by decide) ?_
        refine W.widen (k := cells + 600 * (i + 1)) (n := slots + 1800 * (i + 1)) (by omega) (by omega) ?_
        exact ih (i + 1) (by omega) _ _ _ _ _ _ H locs ls hRP h15 hP hD hS hl
    · skip
      refine lv_bipush (v := 6) hx hb dL_bench_134 (by decide) ?_
      refine lv_iload hx hb dL_bench_136 (lv_at hl 2 rfl) ?_
      refine lv_iconst (v := 2) hx hb dL_bench_138 (by decide) ?_
      refine lv_irem hx hb dL_bench_139 (by decide) ?_
      refine hh_seti (y := (nI ((i % 2)))) (lwMod (a := i) (b := 2) (by omega) (by decide) (by decide) rfl) ?_
      refine lv_iadd hx hb dL_bench_140 ?_
      refine hh_seti (y := (nI ((i % 2) + 6))) (lwAdd (a := 6) (b := (i % 2)) (by omega)) ?_
      refine lv_goto (tgt := 156) hx hb dL_bench_141 (by decide) ?_
      refine lv_iload hx hb dL_bench_156 (lv_at hl 1 rfl) ?_
      refine lv_iload hx hb dL_bench_158 (lv_at hl 0 rfl) ?_
      refine lv_aload_n hx hb dL_bench_160 rfl (lv_at hl 7 rfl) ?_
      refine lv_aload hx hb dL_bench_161 (lv_at hl 5 rfl) ?_
      refine lv_aload hx hb dL_bench_163 (lv_at hl 4 rfl) ?_
      refine lw_RS (S := (Nat → Int64) × (Nat → Int64) × (Nat → Int32) × (Nat → LT)) (wl := []) (wr := ([zAJ cJ adW 60 fw, zAJ cJ adU 33 fu, zAJ cJ adG 60 fg, zAI cI adN 6 fn] ++ wB cI cJ cO adB adA lf bs a T)) (wq := fun u => ([zAJ cJ adW 60 u.1, zAJ cJ adU 33 fu, zAJ cJ adG 60 u.2.1, zAI cI adN 6 u.2.2.1] ++ wB cI cJ cO adB adA lf bs a u.2.2.2)) (rest := []) (va_runS (As := [.ref adB, .int (nI ((i % 2) + 6)), .int (nI X), .int (nI Y), .ref adW, .ref adG, .ref adN]) (rest := []) ⟨hx, hb, hml, hown, hts⟩ (c_L_step l dC dI cI cJ cZ cO adB adA adW adU adG adN lf a bs T fw fu fg fn (X % 3) X Y ((i % 2) + 6) _ hlf (Nat.mod_lt _ (by decide)) rfl hX hY (hRP _ (Nat.mod_lt _ (by decide))) (h15 _ (Nat.mod_lt _ (by decide))) (by omega)) (va_cwS 7 hts (gd_S wd_2_31 wd_2_32 wd_1_0 wd_2_33) rfl rfl rfl (by decide +kernel) ⟨Nat.le_trans (Nat.le_of_ble_eq_true rfl) hR.1, Nat.le_trans (Nat.le_of_ble_eq_true rfl) hR.2⟩) (lw_S2 (wl := []) gN_c (fun U _ hW => gN_w hW hG) hK (List.Perm.refl _) hP hD) rfl rfl hl.1 rfl (lv_room (Nat.le_of_ble_eq_true rfl)) dL_bench_165 hcs) hP hD hS hA (fun r u H locs hpost hP hD hS => ?_)
      obtain ⟨rfl, hsp1, hsp2, hsp3, hsp4⟩ := hpost
      have hP : va_P (dC, dI) vwCl ([zAJ cJ adW 60 u.1, zAJ cJ adU 33 fu, zAJ cJ adG 60 u.2.1, zAI cI adN 6 u.2.2.1] ++ wB cI cJ cO adB adA lf bs a u.2.2.2) H := hP
      have hD : va_D A ([zAJ cJ adW 60 u.1, zAJ cJ adU 33 fu, zAJ cJ adG 60 u.2.1, zAI cI adN 6 u.2.2.1] ++ wB cI cJ cO adB adA lf bs a u.2.2.2) := hD
      have hRP : ∀ j : Nat, j < 3 → RP j (u.2.2.2 j) u.1 fu u.2.1 u.2.2.1 := bn_rp (Nat.mod_lt _ (by decide)) hRP ⟨hsp1, hsp2, hsp3, hsp4⟩
      refine lv_if_ne (tgt := 173) hx hb dL_bench_168 (by decide) (fun _ => ?_) (fun h9 => absurd h9 (by decide))
      refine lv_iload hx hb dL_bench_173 (lv_at hl 0 rfl) ?_
      refine lv_bipush (v := 7) hx hb dL_bench_175 (by decide) ?_
      refine lv_irem hx hb dL_bench_177 (by decide) ?_
      refine hh_seti (y := (nI ((Y % 7)))) (lwMod (a := Y) (b := 7) (by omega) (by decide) (by decide) rfl) ?_
      refine lv_if_ne (tgt := 191) hx hb dL_bench_178 (by decide) (fun h178 => ?_) (fun h178 => ?_)
      · skip
        refine lv_iconst (v := 1) hx hb dL_bench_191 (by decide) ?_
        refine lv_iload hx hb dL_bench_192 (lv_at hl 1 rfl) ?_
        refine lv_iconst (v := 5) hx hb dL_bench_194 (by decide) ?_
        refine lv_irem hx hb dL_bench_195 (by decide) ?_
        refine hh_seti (y := (nI ((X % 5)))) (lwMod (a := X) (b := 5) (by omega) (by decide) (by decide) rfl) ?_
        refine lv_iadd hx hb dL_bench_196 ?_
        refine hh_seti (y := (nI ((X % 5) + 1))) (lwAdd (a := 1) (b := (X % 5)) (by omega)) ?_
        refine lv_istore (lv' := [(11, .int (nI ((X % 5) + 1))), (10, .int (nI Y)), (9, .int (nI X)), (8, .int (nI i)), (7, .int bs), (6, .ref adN), (5, .ref adG), (4, .ref adU), (3, .ref adW), (2, .ref adB), (0, .ref b), (1, .int (nI fr))]) hx hb dL_bench_197 hl (by decide) rfl (fun ls hl => ?_)
        refine lv_iconst (v := 0) hx hb dL_bench_199 (by decide) ?_
        refine hh_seti (y := nI 0) rfl ?_
        refine lv_istore (lv' := [(12, .int (nI 0)), (11, .int (nI ((X % 5) + 1))), (10, .int (nI Y)), (9, .int (nI X)), (8, .int (nI i)), (7, .int bs), (6, .ref adN), (5, .ref adG), (4, .ref adU), (3, .ref adW), (2, .ref adB), (0, .ref b), (1, .int (nI fr))]) hx hb dL_bench_200 hl (by decide) rfl (fun ls hl => ?_)
        refine bn_inner (fr := fr) (b := b) (n := (X % 5) + 1) (i := i) (x9 := nI X) (y10 := nI Y) (cells := cells + 600 * i) (slots := slots + 1800 * i) K hR9 (by omega) (by omega) ⟨Nat.le_trans (by omega) hc.1, Nat.le_trans (by omega) hc.2⟩ hA (fun fw fu fn bs T H locs ls hRP h15 hP hD hS hl => ?_) ((X % 5) + 1) 0 (by omega) _ _ _ _ _ H locs ls hRP (Or.inl rfl) hP hD hS (lv_sub hl [0, 1, 2, 3, 4, 5, 6, 7, 8, 9, 10, 11, 12] rfl)
        refine lv_iinc (v := nI (i + 1)) (lv' := [(8, .int (nI (i + 1))), (7, .int bs), (6, .ref adN), (5, .ref adG), (4, .ref adU), (3, .ref adW), (2, .ref adB), (0, .ref b), (1, .int (nI fr))]) hx hb dL_bench_236 hl (k := 0) rfl (nI_add (i) 1) (by decide) rfl (fun ls hl => ?_)
        refine lv_goto (tgt := 87) hx hb dL_bench_239 (by decide) ?_
        refine W.widen (k := cells + 600 * (i + 1)) (n := slots + 1800 * (i + 1)) (by omega) (by omega) ?_
        exact ih (i + 1) (by omega) _ _ _ _ _ _ H locs ls hRP h15 hP hD hS hl
      · skip
        refine lv_iconst (v := 1) hx hb dL_bench_181 (by decide) ?_
        refine lv_iload hx hb dL_bench_182 (lv_at hl 1 rfl) ?_
        refine lv_bipush (v := 120) hx hb dL_bench_184 (by decide) ?_
        refine lv_irem hx hb dL_bench_186 (by decide) ?_
        refine hh_seti (y := (nI ((X % 120)))) (lwMod (a := X) (b := 120) (by omega) (by decide) (by decide) rfl) ?_
        refine lv_iadd hx hb dL_bench_187 ?_
        refine hh_seti (y := (nI ((X % 120) + 1))) (lwAdd (a := 1) (b := (X % 120)) (by omega)) ?_
        refine lv_goto (tgt := 197) hx hb dL_bench_188 (by decide) ?_
        refine lv_istore (lv' := [(11, .int (nI ((X % 120) + 1))), (10, .int (nI Y)), (9, .int (nI X)), (8, .int (nI i)), (7, .int bs), (6, .ref adN), (5, .ref adG), (4, .ref adU), (3, .ref adW), (2, .ref adB), (0, .ref b), (1, .int (nI fr))]) hx hb dL_bench_197 hl (by decide) rfl (fun ls hl => ?_)
        refine lv_iconst (v := 0) hx hb dL_bench_199 (by decide) ?_
        refine hh_seti (y := nI 0) rfl ?_
        refine lv_istore (lv' := [(12, .int (nI 0)), (11, .int (nI ((X % 120) + 1))), (10, .int (nI Y)), (9, .int (nI X)), (8, .int (nI i)), (7, .int bs), (6, .ref adN), (5, .ref adG), (4, .ref adU), (3, .ref adW), (2, .ref adB), (0, .ref b), (1, .int (nI fr))]) hx hb dL_bench_200 hl (by decide) rfl (fun ls hl => ?_)
        refine bn_inner (fr := fr) (b := b) (n := (X % 120) + 1) (i := i) (x9 := nI X) (y10 := nI Y) (cells := cells + 600 * i) (slots := slots + 1800 * i) K hR9 (by omega) (by omega) ⟨Nat.le_trans (by omega) hc.1, Nat.le_trans (by omega) hc.2⟩ hA (fun fw fu fn bs T H locs ls hRP h15 hP hD hS hl => ?_) ((X % 120) + 1) 0 (by omega) _ _ _ _ _ H locs ls hRP (Or.inl rfl) hP hD hS (lv_sub hl [0, 1, 2, 3, 4, 5, 6, 7, 8, 9, 10, 11, 12] rfl)
        refine lv_iinc (v := nI (i + 1)) (lv' := [(8, .int (nI (i + 1))), (7, .int bs), (6, .ref adN), (5, .ref adG), (4, .ref adU), (3, .ref adW), (2, .ref adB), (0, .ref b), (1, .int (nI fr))]) hx hb dL_bench_236 hl (k := 0) rfl (nI_add (i) 1) (by decide) rfl (fun ls hl => ?_)
        refine lv_goto (tgt := 87) hx hb dL_bench_239 (by decide) ?_
        refine W.widen (k := cells + 600 * (i + 1)) (n := slots + 1800 * (i + 1)) (by omega) (by omega) ?_
        exact ih (i + 1) (by omega) _ _ _ _ _ _ H locs ls hRP h15 hP hD hS hl
end BT
