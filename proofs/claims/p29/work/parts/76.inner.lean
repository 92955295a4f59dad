section BI
variable {p : Program} {l : Launch} {e : Env} {R : Room} {s : State} {m : MethodId} {args : Array Value} {below : List Frame} {meth : Method} {c : Code} {H : Heap} {locs : List Loc} {cells slots k : Nat} {Q : State → Prop} {ls : Array Slot}
variable {dC : Nat → ClassId} {dI : Nat → Nat → Nat} {cI cJ cZ cO : ClassId} {adB adA adW adU adG adN : Nat} {lf : Nat → Option Nat} {bs : Int32} {a : Nat → AT} {T U : Nat → LT} {A : Nat → Prop} {fw fu fg : Nat → Int64} {fn : Nat → Int32}
variable {b L fr : Nat} {xs : Nat → Int32}
set_option maxHeartbeats 4000000 in
theorem bn_inner (K : FX p s m c cL_bench 13 args (dC, dI) cI cJ cZ cO lf a) {n i : Nat} {x9 y10 : Int32} (hR : 9 ≤ R.frames ∧ 226 ≤ R.locals) (hn1 : 1 ≤ n) (hn : n ≤ 120) (hc : cells + 600 ≤ R.cells ∧ slots + 1800 ≤ R.slots) (hA : ∀ q : Nat, s.heap.size ≤ q → A q)
    (kk : ∀ (fw fu : Nat → Int64) (fn : Nat → Int32) (bs : Int32) (T : Nat → LT) (H : Heap) (locs : List Loc) (ls : Array Slot), (∀ j : Nat, j < 3 → RP j (T j) fw fu fg fn) → (∀ j : Nat, j < 3 → fw (20 * j + 15) = 0) → va_P (dC, dI) vwCl ([zAJ cJ adW 60 fw, zAJ cJ adU 33 fu, zAJ cJ adG 60 fg, zAI cI adN 6 fn] ++ wB cI cJ cO adB adA lf bs a T) H → va_D A ([zAJ cJ adW 60 fw, zAJ cJ adU 33 fu, zAJ cJ adG 60 fg, zAI cI adN 6 fn] ++ wB cI cJ cO adB adA lf bs a T) → va_S A s.heap H locs → lv_has ls 13 [(8, .int (nI i)), (7, .int bs), (6, .ref adN), (5, .ref adG), (4, .ref adU), (3, .ref adW), (2, .ref adB), (0, .ref b), (1, .int (nI fr))] → W p l e R s m args below meth c H locs (cells + 600) (slots + 1800) Q (F0 m 236 ls [])) :
    ∀ (d q : Nat), q + d = n → ∀ (fw fu : Nat → Int64) (fn : Nat → Int32) (bs : Int32) (T : Nat → LT) (H : Heap) (locs : List Loc) (ls : Array Slot), (∀ j : Nat, j < 3 → RP j (T j) fw fu fg fn) → (q = 0 ∨ (∀ j : Nat, j < 3 → fw (20 * j + 15) = 0)) → va_P (dC, dI) vwCl ([zAJ cJ adW 60 fw, zAJ cJ adU 33 fu, zAJ cJ adG 60 fg, zAI cI adN 6 fn] ++ wB cI cJ cO adB adA lf bs a T) H → va_D A ([zAJ cJ adW 60 fw, zAJ cJ adU 33 fu, zAJ cJ adG 60 fg, zAI cI adN 6 fn] ++ wB cI cJ cO adB adA lf bs a T) → va_S A s.heap H locs → lv_has ls 13 [(12, .int (nI q)), (11, .int (nI n)), (10, .int y10), (9, .int x9), (8, .int (nI i)), (7, .int bs), (6, .ref adN), (5, .ref adG), (4, .ref adU), (3, .ref adW), (2, .ref adB), (0, .ref b), (1, .int (nI fr))] → W p l e R s m args below meth c H locs (cells + 5 * q) (slots + 15 * q) Q (F0 m 202 ls []) := by
  obtain ⟨hx, hb, hml, hown, hts, hG, hK, hlf⟩ := id K
  intro d
  induction d with
  | zero =>
    intro q hq fw fu fn bs T H locs ls hRP h15 hP hD hS hl
    refine lv_iload hx hb dL_bench_202 (lv_at hl 0 rfl) ?_
    refine lv_iload hx hb dL_bench_204 (lv_at hl 1 rfl) ?_
    refine lv_icmp_ge (tgt := 236) hx hb dL_bench_206 (by decide) (fun _ => ?_) (fun h9 => absurd ((nI_leI (a := n) (b := q) (by omega) (by omega)).mpr (by omega)) h9)
    refine W.widen (k := cells + 600) (n := slots + 1800) (by omega) (by omega) ?_
    exact kk fw fu fn bs T H locs ls hRP (h15.resolve_left (by omega)) hP hD hS (lv_sub hl [4, 5, 6, 7, 8, 9, 10, 11, 12] rfl)
  | succ d ih =>
    intro q hq fw fu fn bs T H locs ls hRP h15 hP hD hS hl
    refine lv_iload hx hb dL_bench_202 (lv_at hl 0 rfl) ?_
    refine lv_iload hx hb dL_bench_204 (lv_at hl 1 rfl) ?_
    refine lv_icmp_ge (tgt := 236) hx hb dL_bench_206 (by decide) (fun h9 => absurd h9 (fun q9 => absurd ((nI_leI (a := n) (b := q) (by omega) (by omega)).mp q9) (by omega))) (fun _ => ?_)
    refine lv_aload_n hx hb dL_bench_209 rfl (lv_at hl 10 rfl) ?_
    refine lv_aload_n hx hb dL_bench_210 rfl (lv_at hl 9 rfl) ?_
    refine lv_aload hx hb dL_bench_211 (lv_at hl 8 rfl) ?_
    refine lv_aload hx hb dL_bench_213 (lv_at hl 7 rfl) ?_
    refine lv_aload hx hb dL_bench_215 (lv_at hl 6 rfl) ?_
    refine lv_iload hx hb dL_bench_217 (lv_at hl 5 rfl) ?_
    refine lw_RS (S := (Nat → Int64) × (Nat → Int64) × (Nat → Int32)) (wl := []) (wr := ([zAJ cJ adW 60 fw, zAJ cJ adU 33 fu, zAJ cJ adG 60 fg, zAI cI adN 6 fn] ++ wB cI cJ cO adB adA lf bs a T)) (wq := fun u => ([zAJ cJ adW 60 u.1, zAJ cJ adU 33 u.2.1, zAJ cJ adG 60 fg, zAI cI adN 6 u.2.2] ++ wB cI cJ cO adB adA lf (bs + 1) a (stepF T))) (rest := []) (va_runS (As := [.ref adB, .ref adW, .ref adU, .ref adG, .ref adN, .int bs]) (rest := []) ⟨hx, hb, hml, hown, hts⟩ (c_L_samples l dC dI cI cJ cZ cO adB adA adW adU adG adN lf a bs T fw fu fg fn bs _ hlf rfl hRP) (va_cwS 6 hts (gd_S wd_3_55 wd_3_56 wd_1_0 wd_3_57) rfl rfl rfl (by decide +kernel) ⟨Nat.le_trans (Nat.le_of_ble_eq_true rfl) hR.1, Nat.le_trans (Nat.le_of_ble_eq_true rfl) hR.2⟩) (lw_S2 (wl := []) gN_c (fun U _ hW => gN_w hW hG) hK (List.Perm.refl _) hP hD) rfl rfl hl.1 rfl (lv_room (Nat.le_of_ble_eq_true rfl)) dL_bench_219 ⟨Nat.le_trans (by omega) hc.1, Nat.le_trans (by omega) hc.2⟩) hP hD hS hA (fun r u H locs hpost hP hD hS => ?_)
    obtain ⟨rfl, hRP2, h152⟩ := hpost
    have hP : va_P (dC, dI) vwCl ([zAJ cJ adW 60 u.1, zAJ cJ adU 33 u.2.1, zAJ cJ adG 60 fg, zAI cI adN 6 u.2.2] ++ wB cI cJ cO adB adA lf (bs + 1) a (stepF T)) H := hP
    have hD : va_D A ([zAJ cJ adW 60 u.1, zAJ cJ adU 33 u.2.1, zAJ cJ adG 60 fg, zAI cI adN 6 u.2.2] ++ wB cI cJ cO adB adA lf (bs + 1) a (stepF T)) := hD
    refine lv_if_ne (tgt := 227) hx hb dL_bench_222 (by decide) (fun _ => ?_) (fun h9 => absurd h9 (by decide))
    refine lv_iinc (v := (bs + 1)) (lv' := [(7, .int (bs + 1)), (12, .int (nI q)), (11, .int (nI n)), (10, .int y10), (9, .int x9), (8, .int (nI i)), (6, .ref adN), (5, .ref adG), (4, .ref adU), (3, .ref adW), (2, .ref adB), (0, .ref b), (1, .int (nI fr))]) hx hb dL_bench_227 hl (k := 5) rfl rfl (by decide) rfl (fun ls hl => ?_)
    refine lv_iinc (v := (nI (q + 1))) (lv' := [(12, .int (nI (q + 1))), (7, .int (bs + 1)), (11, .int (nI n)), (10, .int y10), (9, .int x9), (8, .int (nI i)), (6, .ref adN), (5, .ref adG), (4, .ref adU), (3, .ref adW), (2, .ref adB), (0, .ref b), (1, .int (nI fr))]) hx hb dL_bench_230 hl (k := 1) rfl (nI_add (q) 1) (by decide) rfl (fun ls hl => ?_)
    refine lv_goto (tgt := 202) hx hb dL_bench_233 (by decide) ?_
    refine W.widen (k := cells + 5 * (q + 1)) (n := slots + 15 * (q + 1)) (by omega) (by omega) ?_
    exact ih (q + 1) (by omega) _ _ _ _ _ H locs ls hRP2 (Or.inr h152) hP hD hS (lv_sub hl [0, 2, 3, 4, 5, 1, 6, 7, 8, 9, 10, 11, 12] rfl)
end BI
