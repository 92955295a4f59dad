theorem wAt1 {w : Cond} (h : w ∈ tables_1_1) : w ∈ lw_tbl := List.mem_append_right _ (inT1 _ h)
theorem wAt2 {w : Cond} (h : w ∈ tables_1_2) : w ∈ lw_tbl := List.mem_append_right _ (inT2 _ h)
theorem wAt3 {w : Cond} (h : w ∈ tables_1_3) : w ∈ lw_tbl := List.mem_append_right _ (inT3 _ h)
theorem wAt4 {w : Cond} (h : w ∈ tables_1_4) : w ∈ lw_tbl := List.mem_append_right _ (inT4 _ h)
theorem arr_of {s : State} {args : Array Value} {ty : FieldType} (hty : ∀ C : String, ¬ ty = .object C) (h : (Cond.arrayClass ty).before args s = true) : ∃ cA : ClassId, ArrOfT s cA ty ∧ va_RA s cA ty := by
  obtain ⟨cA, kA, comp, hfind, hk, hkind⟩ := Cond.arrayClass_spec h
  refine ⟨cA, fun n z => ⟨fun k h => (by cases h), kA, hk, comp, hkind⟩, ?_⟩
  cases ty with
  | object C => exact absurd rfl (hty C)
  | _ => exact hfind
theorem arr_ofO {s : State} {C : String} (h : va_AO C s) : ∃ cA : ClassId, ArrOfT s cA (.object C) ∧ va_RA s cA (.object C) := by
  obtain ⟨comp, cA, k, h1, h2, h3, h4, h5⟩ := Cond.arrayOver_spec h
  exact ⟨cA, fun n z => ⟨fun k h => (by cases h), k, h3, comp, h4⟩, k, comp, h3, h4, h1, h5⟩
set_option maxHeartbeats 4000000 in
set_option maxRecDepth 100000 in
theorem whole_start {p : Program} {e : Env} {s : State} {m : MethodId} {below : List Frame} {meth : Method} {c : Code} (l : Launch) (hflags : l.flags = flags0) {b L : Nat} {xs : Nat → Int32} (hL : L ≤ 260) (C0 : lw_At p s m meth c b L xs) : W p l e room_1 s m #[Value.ref b] below meth c s.heap [] 0 0 (lw_Z below #[Value.ref b] s) (entryFrame m ([Value.ref b] : List Value).toArray 1) := by
  obtain ⟨hx, hb, hr, hml, hown, ht0, hX, hbl, hlocks, hgv⟩ := C0
  have hts : ∀ w ∈ wAll, w.before #[Value.ref b] s = true := fun w hw => ht0 w (wAll_in w hw)
  have hA : ∀ q : Nat, s.heap.size ≤ q → (fun q => s.heap.size ≤ q) q := fun _ h => h
  have hbA : ¬ (fun q => s.heap.size ≤ q) b := Nat.not_le.mpr hbl
  obtain ⟨c0, i0, hKn0⟩ := u_known (C := RX0) (T := TX0) (N := 15) (n := 15) hts inW_X0 (hts _ wd_1_33)
  obtain ⟨c1, i1, hKn1⟩ := u_known (C := RX1) (T := TX1) (N := 10) (n := 10) hts inW_X1 (hts _ wd_1_27)
  obtain ⟨c2, i2, hKn2⟩ := u_known (C := RX2) (T := TX2) (N := 9) (n := 9) hts inW_X2 (hts _ wd_1_40)
  obtain ⟨c3, i3, hKn3⟩ := u_known (C := RX3) (T := TX3) (N := 12) (n := 12) hts inW_X3 (hts _ wd_1_166)
  obtain ⟨c4, i4, hKn4⟩ := u_known (C := RX4) (T := TX4) (N := 5) (n := 5) hts inW_X4 (hts _ wd_1_143)
  obtain ⟨c5, i5, hKn5⟩ := u_known (C := RX5) (T := TX5) (N := 2) (n := 2) hts inW_X5 (hts _ wd_1_18)
  obtain ⟨dC, dI, hKc⟩ : ∃ (dC : Nat → ClassId) (dI : Nat → Nat → Nat), ∀ (k : Nat) (q : vw_C), vwCl[k]? = some q → u_Kn s q.1 q.2.1 q.2.2 (dC k) (dI k) := by
    refine ⟨fun k => match k with | 0 => c0 | 1 => c1 | 2 => c2 | 3 => c3 | 4 => c4 | _ => c5, fun k => match k with | 0 => i0 | 1 => i1 | 2 => i2 | 3 => i3 | 4 => i4 | _ => i5, ?_⟩
    intro k q hq
    match k, hq with
    | 0, hq => cases hq; exact hKn0
    | 1, hq => cases hq; exact hKn1
    | 2, hq => cases hq; exact hKn2
    | 3, hq => cases hq; exact hKn3
    | 4, hq => cases hq; exact hKn4
    | 5, hq => cases hq; exact hKn5
    | k + 6, hq => simp [vwCl] at hq
  have hAO : va_AO RX1 s := va_AO.of (A := #[Value.ref b]) (ht0 (.arrayOver (.object RX1)) (wAt1 (List.mem_of_getElem? (i := 26) rfl)))
  obtain ⟨cI, hcI⟩ := arr_of (ty := .int) (fun _ h => nomatch h) (hts _ wd_1_164)
  obtain ⟨cJ, hcJ⟩ := arr_of (ty := .long) (fun _ h => nomatch h) (hts _ wd_1_82)
  obtain ⟨cZ, hcZ⟩ := arr_of (ty := .byte) (fun _ h => nomatch h) (hts _ wd_2_109)
  obtain ⟨cO, hcO⟩ := arr_ofO hAO
  have hK : va_K (dC, dI) vwCl (tyG cI cJ cZ cO) s := ⟨hKc, fun k q h => by
    match k, h with
    | 0, h => cases h; exact hcI
    | 1, h => cases h; exact hcJ
    | 2, h => cases h; exact hcZ
    | 3, h => cases h; exact hcO
    | k + 4, h => simp [tyG] at h⟩
  have hN : gN s := ⟨va_Nw.of (A := #[Value.ref b]) rfl (ht0 _ (wAt1 (List.mem_of_getElem? (i := 28) rfl))), va_Nw.of (A := #[Value.ref b]) rfl (ht0 _ (wAt1 (List.mem_of_getElem? (i := 34) rfl))), va_Nw.of (A := #[Value.ref b]) rfl (ht0 _ (wAt1 (List.mem_of_getElem? (i := 144) rfl))), va_Nw.of (A := #[Value.ref b]) rfl (ht0 _ (wAt1 (List.mem_of_getElem? (i := 167) rfl))), va_Nw.of (A := #[Value.ref b]) rfl (ht0 _ (wAt1 (List.mem_of_getElem? (i := 41) rfl))), va_Nw.of (A := #[Value.ref b]) rfl (ht0 _ (wAt3 (List.mem_of_getElem? (i := 86) rfl))), va_Nw.of (A := #[Value.ref b]) rfl (ht0 _ (wAt3 (List.mem_of_getElem? (i := 178) rfl)))⟩
  have hGX : gX b L xs s := ⟨⟨hN, hAO⟩, hX, hbl⟩
  have hS : va_S (fun q => s.heap.size ≤ q) s.heap s.heap [] := va_S.rf
  have hP : va_P (dC, dI) vwCl [] s.heap := fun k q h => by simp at h
  have hD : va_D (fun q => s.heap.size ≤ q) [] := ⟨fun i j p q h => by simp at h, fun k q h => by simp at h⟩
  have hl := lv_entry ([.ref b]) (n := 1) (Nat.le_of_ble_eq_true rfl)
  rw [lg_entry_eq]
  generalize (lg_sl ([.ref b]) ++ List.replicate (1 - (lg_sl ([.ref b])).length) Slot.unset).toArray = ls at hl ⊢
  have hl : lv_has ls 1 [(0, .ref b)] := hl
  refine lv_aload_n hx hb dL_law_0 rfl (lv_at hl 0 rfl) ?_
  refine lv_iconst (v := 0) hx hb dL_law_1 (by decide) ?_
  refine hh_seti (y := nI 0) rfl ?_
  refine lw_Er (post := fun r _ => r = 1) (rest := []) (va_runS (As := [.ref b, .int (nI 0)]) (rest := []) ⟨hx, hb, hml, hown, hts⟩ (c_L_bench l dC dI cI cJ cZ cO b L xs 0 _ hL (by decide)) (va_cwS 2 hts (gd_S wd_1_14 wd_1_15 wd_1_0 wd_1_16) rfl rfl rfl (by decide +kernel) ⟨Nat.le_of_ble_eq_true rfl, Nat.le_of_ble_eq_true rfl⟩) (lw_S0 gX_c (fun U hU hW => gX_w hS hbA hGX hU hW) hK) rfl rfl hl.1 rfl (lv_room (Nat.le_of_ble_eq_true rfl)) dL_law_2 ⟨Nat.le_of_ble_eq_true rfl, Nat.le_of_ble_eq_true rfl⟩) hP hD hS hA (fun r H locs hpost hP hD hS => ?_)
  subst hpost
  refine lv_if_eq (tgt := 32) hx hb dL_law_5 (by decide) (fun h9 => absurd h9 (by decide)) (fun _ => ?_)
  refine lv_aload_n hx hb dL_law_8 rfl (lv_at hl 0 rfl) ?_
  refine lv_sipush (v := 135) hx hb dL_law_9 (by decide) ?_
  refine hh_seti (y := nI 135) rfl ?_
  refine lw_Er (post := fun r _ => r = 1) (rest := []) (va_runS (As := [.ref b, .int (nI 135)]) (rest := []) ⟨hx, hb, hml, hown, hts⟩ (c_L_bench l dC dI cI cJ cZ cO b L xs 135 _ hL (by decide)) (va_cwS 2 hts (gd_S wd_1_14 wd_1_15 wd_1_0 wd_1_16) rfl rfl rfl (by decide +kernel) ⟨Nat.le_of_ble_eq_true rfl, Nat.le_of_ble_eq_true rfl⟩) (lw_S0 gX_c (fun U hU hW => gX_w hS hbA hGX hU hW) hK) rfl rfl hl.1 rfl (lv_room (Nat.le_of_ble_eq_true rfl)) dL_law_12 ⟨Nat.le_of_ble_eq_true rfl, Nat.le_of_ble_eq_true rfl⟩) hP hD hS hA (fun r H locs hpost hP hD hS => ?_)
  subst hpost
  refine lv_if_eq (tgt := 32) hx hb dL_law_15 (by decide) (fun h9 => absurd h9 (by decide)) (fun _ => ?_)
  refine lv_aload_n hx hb dL_law_18 rfl (lv_at hl 0 rfl) ?_
  refine lv_sipush (v := 270) hx hb dL_law_19 (by decide) ?_
  refine hh_seti (y := nI 270) rfl ?_
  refine lw_Er (post := fun r _ => r = 1) (rest := []) (va_runS (As := [.ref b, .int (nI 270)]) (rest := []) ⟨hx, hb, hml, hown, hts⟩ (c_L_bench l dC dI cI cJ cZ cO b L xs 270 _ hL (by decide)) (va_cwS 2 hts (gd_S wd_1_14 wd_1_15 wd_1_0 wd_1_16) rfl rfl rfl (by decide +kernel) ⟨Nat.le_of_ble_eq_true rfl, Nat.le_of_ble_eq_true rfl⟩) (lw_S0 gX_c (fun U hU hW => gX_w hS hbA hGX hU hW) hK) rfl rfl hl.1 rfl (lv_room (Nat.le_of_ble_eq_true rfl)) dL_law_22 ⟨Nat.le_of_ble_eq_true rfl, Nat.le_of_ble_eq_true rfl⟩) hP hD hS hA (fun r H locs hpost hP hD hS => ?_)
  subst hpost
  refine lv_if_eq (tgt := 32) hx hb dL_law_25 (by decide) (fun h9 => absurd h9 (by decide)) (fun _ => ?_)
  refine lv_iconst (v := 1) hx hb dL_law_28 (by decide) ?_
  refine lv_goto (tgt := 33) hx hb dL_law_29 (by decide) ?_
  refine va_forget (fun q hq => hS.2.2 q hq) ?_
  refine W.widen (k := 731316) (n := 6907750) (Nat.le_of_ble_eq_true rfl) (Nat.le_of_ble_eq_true rfl) ?_
  exact lw_ret hx hb hr hlocks dL_law_33
