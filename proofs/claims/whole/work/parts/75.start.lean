theorem pe_st (x y z : Nat × va_E) (w0 w1 w2 wr : va_W) : ((([x, y] ++ (w0 ++ (w1 ++ w2))) ++ wr) ++ [z]).Perm ([x, y, z] ++ (w0 ++ (w1 ++ (w2 ++ wr)))) := by
  have h : (([x, y] ++ (w0 ++ (w1 ++ w2))) ++ wr) ++ [z] = [x, y] ++ ((w0 ++ (w1 ++ (w2 ++ wr))) ++ [z]) := by simp only [List.append_assoc]
  rw [h]
  exact (List.perm_append_comm (l₁ := w0 ++ (w1 ++ (w2 ++ wr))) (l₂ := [z])).append_left [x, y]
theorem wAt1 {w : Cond} (h : w ∈ tables_1_1) : w ∈ lw_tbl := List.mem_append_right _ (inT1 _ h)
theorem wAt2 {w : Cond} (h : w ∈ tables_1_2) : w ∈ lw_tbl := List.mem_append_right _ (inT2 _ h)
theorem wAt3 {w : Cond} (h : w ∈ tables_1_3) : w ∈ lw_tbl := List.mem_append_right _ (inT3 _ h)
theorem wAt4 {w : Cond} (h : w ∈ tables_1_4) : w ∈ lw_tbl := List.mem_append_right _ (inT4 _ h)
theorem wAt5 {w : Cond} (h : w ∈ tables_1_5) : w ∈ lw_tbl := List.mem_append_right _ (inT5 _ h)
section ST0
variable {p : Program} {l : Launch} {e : Env} {R : Room} {s : State} {m : MethodId} {args : Array Value} {below : List Frame} {meth : Method} {c : Code} {H : Heap} {locs : List Loc} {cells slots mc ms : Nat} {Q : State → Prop} {cc : ByteArray} {pc : Nat} {ls : Array Slot} {rest st0 As : List Value}
variable {D : va_G} {wl wr : va_W} {tys : List (ClassId × FieldType)} {A0 : Nat → Prop} {H0 : Heap} {G : State → Prop} {X9 : Array Value}
theorem lw_pRS (hG1 : ∀ (U : State) (g : JFrame) (mk : MethodId) (a : Array Value), G U → G (U.calling g mk a)) (hG2 : ∀ U : State, U.heap = H → s.WarmedH U.vm → G U) (hK : va_K D vwCl tys s) (hP : va_P D vwCl (wl ++ wr) H) (hD : va_D A0 (wl ++ wr)) : PreS s H (va_Pc As (gP D wr tys H.size G)) As :=
  ⟨hh_blind hG1, fun U hU hW => ⟨rfl, by rw [hU], by rw [hU]; exact ap_R hP, va_K.moved hW.alike hK, (ap_DR hD).weaken (fun _ _ _ _ => trivial), hG2 U hU hW⟩⟩
theorem lw_RvE {S : Type} {wq : S → va_W} (hr : va_Run p l e R s m args below meth c H locs cells slots mc ms (F0 m pc ls st0) rest (va_Qv (fun (_ : S) => True) (fun u t => gB D (va_A wr H.size) (wq u) tys t) (va_A wr H.size) X9) (va_A wr H.size)) (hP : va_P D vwCl (wl ++ wr) H) (hD : va_D A0 (wl ++ wr)) (hS : va_S A0 H0 H locs) (hA : ∀ q, H0.size ≤ q → A0 q)
    (kk : ∀ (u : S) (H1 : Heap) (locs1 : List Loc), va_P D vwCl (wl ++ wq u) H1 → va_D A0 (wl ++ wq u) → va_S A0 H0 H1 locs1 → W p l e R s m args below meth c H1 locs1 (cells + mc) (slots + ms) Q (F0 m (pc + 3) ls rest)) : W p l e R s m args below meth c H locs cells slots Q (F0 m pc ls st0) := by
  have hA2 : ∀ q, H.size ≤ q → A0 q := fun q h => hA q (Nat.le_trans hS.1 h)
  have hFc : ∀ q, va_A wr H.size q → A0 q := fun q h => ap_A h (ap_DR hD) hA2
  refine va_callv hr hS (fun q _ h => hFc q h) hFc (fun u t H1 locs1 ht hvm hw hB hz1 hk1 hS => ?_)
  obtain ⟨hP1, hK1, hD1⟩ := hB
  rw [ht] at hP1
  obtain ⟨hP2, hD2⟩ := ap_joinR hP hD hA2 hk1 hP1 hD1
  exact kk u H1 locs1 hP2 hD2 hS
theorem gO_c (U : State) (g : JFrame) (mk : MethodId) (a : Array Value) (h : gO U) : gO (U.calling g mk a) := ⟨gN_c U g mk a h.1, va_AO.moved (Vm.Alike.refl U.vm) h.2⟩
theorem gO_w {s U : State} (hW : s.WarmedH U.vm) (h : gO s) : gO U := ⟨gN_w hW h.1, va_AO.moved hW.alike h.2⟩
end ST0
theorem arr_of {s : State} {args : Array Value} {ty : FieldType} (hty : ∀ C : String, ¬ ty = .object C) (h : (Cond.arrayClass ty).before args s = true) : ∃ cA : ClassId, ArrOfT s cA ty ∧ va_RA s cA ty := by
  obtain ⟨cA, kA, comp, hfind, hk, hkind⟩ := Cond.arrayClass_spec h
  refine ⟨cA, fun n z => ⟨fun k h => (by cases h), kA, hk, comp, hkind⟩, ?_⟩
  cases ty with
  | object C => exact absurd rfl (hty C)
  | _ => exact hfind
theorem arr_ofO {s : State} {C : String} (h : va_AO C s) : ∃ cA : ClassId, ArrOfT s cA (.object C) ∧ va_RA s cA (.object C) := by
  obtain ⟨comp, cA, k, h1, h2, h3, h4, h5⟩ := Cond.arrayOver_spec h
  exact ⟨cA, fun n z => ⟨fun k h => (by cases h), k, h3, comp, h4⟩, k, comp, h3, h4, h1, h5⟩
theorem str_of {s : State} {b : Addr} {k : Nat} {tx : String} (h1 : (Cond.stringRef RX5 k tx).before #[Value.ref b] s = true) (h2 : (Cond.exactly (.string RX5 k) "java/lang/String").before #[Value.ref b] s = true) : ∃ a, vk_R RX5 k tx a s := by
  obtain ⟨a, -, -, -, ha, -⟩ := Cond.exactly_spec h2
  exact ⟨a, vk_R.of h1 ha⟩
set_option maxHeartbeats 4000000 in
set_option maxRecDepth 100000 in
theorem whole_start {p : Program} {e : Env} {s : State} {m : MethodId} {below : List Frame} {meth : Method} {c : Code} (l : Launch) (hflags : l.flags = flags0) {b L : Nat} {xs : Nat → Int32} (hL : L ≤ 3072) (C0 : lw_At p s m meth c b L xs) : W p l e room_1 s m #[Value.ref b] below meth c s.heap [] 0 0 (lw_Z below #[Value.ref b] s) (entryFrame m ([Value.ref b] : List Value).toArray 8) := by
  obtain ⟨hx, hb, hr, hml, hown, ht0, hX, hbl, hlocks, hgv⟩ := C0
  have hts : ∀ w ∈ wAll, w.before #[Value.ref b] s = true := fun w hw => ht0 w (wAll_in w hw)
  have hfl : l.stackTraces = false := by unfold Launch.stackTraces; rw [hflags]; decide
  have hfb := flat_of_before _ hgv
  have hA : ∀ q : Nat, s.heap.size ≤ q → (fun q => s.heap.size ≤ q) q := fun _ h => h
  have hnA : ∀ a : Nat, a < s.heap.size → ¬ (fun q => s.heap.size ≤ q) a := fun a h => Nat.not_le.mpr h
  obtain ⟨c0, i0, hKn0⟩ := u_known (C := RX0) (T := TX0) (N := 15) (n := 15) hts inW_X0 (hts _ wd_1_31)
  obtain ⟨c1, i1, hKn1⟩ := u_known (C := RX1) (T := TX1) (N := 10) (n := 10) hts inW_X1 (hts _ wd_1_25)
  obtain ⟨c2, i2, hKn2⟩ := u_known (C := RX2) (T := TX2) (N := 9) (n := 9) hts inW_X2 (hts _ wd_1_38)
  obtain ⟨c3, i3, hKn3⟩ := u_known (C := RX3) (T := TX3) (N := 12) (n := 12) hts inW_X3 (hts _ wd_1_164)
  obtain ⟨c4, i4, hKn4⟩ := u_known (C := RX4) (T := TX4) (N := 5) (n := 5) hts inW_X4 (hts _ wd_1_141)
  obtain ⟨c5, i5, hKn5⟩ := u_known (C := RX5) (T := TX5) (N := 2) (n := 2) hts inW_X5 (hts _ wd_1_16)
  obtain ⟨c6, i6, hKn6⟩ := u_known (C := RX6) (T := TX6) (N := 42) (n := 42) hts inW_X6 (hts _ wd_4_46)
  obtain ⟨dC, dI, hKc⟩ : ∃ (dC : Nat → ClassId) (dI : Nat → Nat → Nat), ∀ (k : Nat) (q : vw_C), vwCl[k]? = some q → u_Kn s q.1 q.2.1 q.2.2 (dC k) (dI k) := by
    refine ⟨fun k => match k with | 0 => c0 | 1 => c1 | 2 => c2 | 3 => c3 | 4 => c4 | 5 => c5 | _ => c6, fun k => match k with | 0 => i0 | 1 => i1 | 2 => i2 | 3 => i3 | 4 => i4 | 5 => i5 | _ => i6, ?_⟩
    intro k q hq
    match k, hq with
    | 0, hq => cases hq; exact hKn0
    | 1, hq => cases hq; exact hKn1
    | 2, hq => cases hq; exact hKn2
    | 3, hq => cases hq; exact hKn3
    | 4, hq => cases hq; exact hKn4
    | 5, hq => cases hq; exact hKn5
    | 6, hq => cases hq; exact hKn6
    | k + 7, hq => simp [vwCl] at hq
  have hAO : va_AO RX1 s := va_AO.of (A := #[Value.ref b]) (ht0 (.arrayOver (.object RX1)) (wAt1 (List.mem_of_getElem? (i := 24) rfl)))
  obtain ⟨cI, hcI⟩ := arr_of (ty := .int) (fun _ h => nomatch h) (hts _ wd_1_162)
  obtain ⟨cJ, hcJ⟩ := arr_of (ty := .long) (fun _ h => nomatch h) (hts _ wd_1_80)
  obtain ⟨cZ, hcZ⟩ := arr_of (ty := .boolean) (fun _ h => nomatch h) (hts _ wd_4_183)
  obtain ⟨cO, hcO⟩ := arr_ofO hAO
  have hK : va_K (dC, dI) vwCl (tyG cI cJ cZ cO) s := ⟨hKc, fun k q h => by
    match k, h with
    | 0, h => cases h; exact hcI
    | 1, h => cases h; exact hcJ
    | 2, h => cases h; exact hcZ
    | 3, h => cases h; exact hcO
    | k + 4, h => simp [tyG] at h⟩
  have hN : gN s := ⟨va_Nw.of (A := #[Value.ref b]) rfl (ht0 _ (wAt1 (List.mem_of_getElem? (i := 26) rfl))), va_Nw.of (A := #[Value.ref b]) rfl (ht0 _ (wAt1 (List.mem_of_getElem? (i := 32) rfl))), va_Nw.of (A := #[Value.ref b]) rfl (ht0 _ (wAt1 (List.mem_of_getElem? (i := 142) rfl))), va_Nw.of (A := #[Value.ref b]) rfl (ht0 _ (wAt1 (List.mem_of_getElem? (i := 165) rfl))), va_Nw.of (A := #[Value.ref b]) rfl (ht0 _ (wAt1 (List.mem_of_getElem? (i := 39) rfl))), va_Nw.of (A := #[Value.ref b]) rfl (ht0 _ (wAt3 (List.mem_of_getElem? (i := 44) rfl))), va_Nw.of (A := #[Value.ref b]) rfl (ht0 _ (wAt3 (List.mem_of_getElem? (i := 136) rfl)))⟩
  have hSx : gS s := ⟨str_of (ht0 (.stringRef RX5 211 "no such loop") (wAt2 (List.mem_of_getElem? (i := 73) rfl))) (hfb (.exactly (.string RX5 211) "java/lang/String") (by decide +kernel)), str_of (ht0 (.stringRef RX5 222 "out of range") (wAt2 (List.mem_of_getElem? (i := 115) rfl))) (hfb (.exactly (.string RX5 222) "java/lang/String") (by decide +kernel)), str_of (ht0 (.stringRef RX5 227 "not in this state") (wAt2 (List.mem_of_getElem? (i := 154) rfl))) (hfb (.exactly (.string RX5 227) "java/lang/String") (by decide +kernel)), str_of (ht0 (.stringRef RX5 216 "no such gain") (wAt3 (List.mem_of_getElem? (i := 184) rfl))) (hfb (.exactly (.string RX5 216) "java/lang/String") (by decide +kernel)), va_Nw.of (A := #[Value.ref b]) rfl (ht0 (.castable (exN 1) (exN 1)) (wAt2 (List.mem_of_getElem? (i := 34) rfl))), va_Nw.of (A := #[Value.ref b]) rfl (ht0 (.castable (exN 2) (exN 2)) (wAt2 (List.mem_of_getElem? (i := 108) rfl))), va_Nw.of (A := #[Value.ref b]) rfl (ht0 (.castable (exN 3) (exN 3)) (wAt2 (List.mem_of_getElem? (i := 147) rfl))), va_Nw.of (A := #[Value.ref b]) rfl (ht0 _ (wAt2 (List.mem_of_getElem? (i := 36) rfl))), va_Nw.of (A := #[Value.ref b]) rfl (ht0 _ (wAt2 (List.mem_of_getElem? (i := 38) rfl))), va_Nw.of (A := #[Value.ref b]) rfl (ht0 _ (wAt2 (List.mem_of_getElem? (i := 40) rfl)))⟩
  have hZ : gZ (fun q => s.heap.size ≤ q) s := ⟨vx_Zqof (args := #[Value.ref b]) (ht0 _ (wAt2 (List.mem_of_getElem? (i := 59) rfl))) (hts _ wd_1_8) (hfb (.isRef (.static "java/lang/Throwable" "UNASSIGNED_STACK" "[Ljava/lang/StackTraceElement;")) (by decide +kernel)) hnA, vx_Zqof (args := #[Value.ref b]) (ht0 _ (wAt2 (List.mem_of_getElem? (i := 61) rfl))) (hts _ wd_1_8) (hfb (.isRef (.static "java/lang/Throwable" "SUPPRESSED_SENTINEL" "Ljava/util/List;")) (by decide +kernel)) hnA⟩
  have hGW : gW (fun q => s.heap.size ≤ q) s := ⟨⟨hN, hSx, hZ⟩, va_Nc.of (args := #[Value.ref b]) (hfb (.not (.castable "java/lang/IllegalArgumentException" "java/lang/IndexOutOfBoundsException")) (by decide +kernel)), va_Nc.of (args := #[Value.ref b]) (hfb (.not (.castable "java/lang/IllegalStateException" "java/lang/IndexOutOfBoundsException")) (by decide +kernel)), va_Nc.of (args := #[Value.ref b]) (hfb (.not (.castable "java/lang/IllegalStateException" "java/lang/IllegalArgumentException")) (by decide +kernel))⟩
  have hS : va_S (fun q => s.heap.size ≤ q) s.heap s.heap [] := va_S.rf
  have hP : va_P (dC, dI) vwCl [] s.heap := fun k q h => by simp at h
  have hD : va_D (fun q => s.heap.size ≤ q) [] := ⟨fun i j p q h => by simp at h, fun k q h => by simp at h⟩
  have hl := lv_entry ([.ref b]) (n := 8) (Nat.le_of_ble_eq_true rfl)
  rw [lg_entry_eq]
  generalize (lg_sl ([.ref b]) ++ List.replicate (8 - (lg_sl ([.ref b])).length) Slot.unset).toArray = ls at hl ⊢
  have hl : lv_has ls 8 [(0, .ref b)] := hl
  refine va_new (ci := 5) (fs := [.null, .int (0 : Int32)]) (C := RX5) (T := TX5) (N := 2) hx hb hts inW_X5 tyX5 tyX5_ok hown (hts _ wd_1_15) (hts _ wd_1_16) (hts _ wd_1_1) hK hP hD hS hA rfl (fun j hj => match j, hj with | 0, _ => rfl | 1, _ => rfl | j + 2, hj => absurd hj (by omega)) (Nat.le_of_ble_eq_true rfl) (Nat.le_of_ble_eq_true rfl) dL_law_0 (fun adB H hP hD hS => ?_)
  refine lv_dup hx hb dL_law_3 rfl ?_
  refine lw_RvE (wl := []) (wr := [(adB, .inr (5, [.null, .int (0 : Int32)]))]) (rest := [.ref adB]) (va_runI (As := []) (rest := [.ref adB]) ⟨hx, hb, hml, hown, hts⟩ (c_X5_init l dC dI cI cJ cZ cO adB _) (cwI 0 hts (gd_I wd_1_19) rfl rfl rfl (hts _ wd_1_1) (hts _ wd_1_17) (hts _ wd_1_18) rfl (by decide +kernel) ⟨Nat.le_of_ble_eq_true rfl, Nat.le_of_ble_eq_true rfl⟩) (lw_pRS (As := .ref adB :: []) gO_c (fun U _ hW => gO_w hW ⟨hN, hAO⟩) hK hP hD) rfl rfl hl.1 rfl (lv_room (Nat.le_of_ble_eq_true rfl)) dL_law_4 ⟨Nat.le_of_ble_eq_true rfl, Nat.le_of_ble_eq_true rfl⟩) hP hD hS hA (fun u H locs hP hD hS => ?_)
  obtain ⟨a, ha⟩ : ∃ z : AT × AT × AT, z = ((u.2.1, u.2.2.2.1, u.2.2.2.2.1, u.2.2.1, u.2.2.2.2.2.1, u.2.2.2.2.2.2.1, u.2.2.2.2.2.2.2.1, u.2.2.2.2.2.2.2.2.1, u.2.2.2.2.2.2.2.2.2.1, u.2.2.2.2.2.2.2.2.2.2.1), (u.2.2.2.2.2.2.2.2.2.2.2.1, u.2.2.2.2.2.2.2.2.2.2.2.2.2.1, u.2.2.2.2.2.2.2.2.2.2.2.2.2.2.1, u.2.2.2.2.2.2.2.2.2.2.2.2.1, u.2.2.2.2.2.2.2.2.2.2.2.2.2.2.2.1, u.2.2.2.2.2.2.2.2.2.2.2.2.2.2.2.2.1, u.2.2.2.2.2.2.2.2.2.2.2.2.2.2.2.2.2.1, u.2.2.2.2.2.2.2.2.2.2.2.2.2.2.2.2.2.2.1, u.2.2.2.2.2.2.2.2.2.2.2.2.2.2.2.2.2.2.2.1, u.2.2.2.2.2.2.2.2.2.2.2.2.2.2.2.2.2.2.2.2.1), (u.2.2.2.2.2.2.2.2.2.2.2.2.2.2.2.2.2.2.2.2.2.1, u.2.2.2.2.2.2.2.2.2.2.2.2.2.2.2.2.2.2.2.2.2.2.2.1, u.2.2.2.2.2.2.2.2.2.2.2.2.2.2.2.2.2.2.2.2.2.2.2.2.1, u.2.2.2.2.2.2.2.2.2.2.2.2.2.2.2.2.2.2.2.2.2.2.1, u.2.2.2.2.2.2.2.2.2.2.2.2.2.2.2.2.2.2.2.2.2.2.2.2.2.1, u.2.2.2.2.2.2.2.2.2.2.2.2.2.2.2.2.2.2.2.2.2.2.2.2.2.2.1, u.2.2.2.2.2.2.2.2.2.2.2.2.2.2.2.2.2.2.2.2.2.2.2.2.2.2.2.1, u.2.2.2.2.2.2.2.2.2.2.2.2.2.2.2.2.2.2.2.2.2.2.2.2.2.2.2.2.1, u.2.2.2.2.2.2.2.2.2.2.2.2.2.2.2.2.2.2.2.2.2.2.2.2.2.2.2.2.2.1, u.2.2.2.2.2.2.2.2.2.2.2.2.2.2.2.2.2.2.2.2.2.2.2.2.2.2.2.2.2.2)) := ⟨_, rfl⟩
  obtain ⟨lf, hlf⟩ : ∃ z : Nat → Option Nat, z = (va_up (va_up (va_up (fun _ => none) (0 : Int32).toNatClampNeg (some u.2.1)) (1 : Int32).toNatClampNeg (some u.2.2.2.2.2.2.2.2.2.2.2.1)) (2 : Int32).toNatClampNeg (some u.2.2.2.2.2.2.2.2.2.2.2.2.2.2.2.2.2.2.2.2.2.1)) := ⟨_, rfl⟩
  obtain ⟨adA, hadA⟩ : ∃ z : Nat, z = u.1 := ⟨_, rfl⟩
  have hf0 : lf (0 : Int32).toNatClampNeg = some (ya_adL a.1) := by rw [hlf, ha]; rfl
  have hf1 : lf (1 : Int32).toNatClampNeg = some (ya_adL a.2.1) := by rw [hlf, ha]; rfl
  have hf2 : lf (2 : Int32).toNatClampNeg = some (ya_adL a.2.2) := by rw [hlf, ha]; rfl
  obtain ⟨WCu, hWC⟩ : ∃ z : va_W, z = wC cI cJ cO adB adA lf 0 a (iL, iL, iL) := ⟨_, rfl⟩
  have hP : va_P (dC, dI) vwCl WCu H := by rw [hWC, ha, hlf, hadA]; exact hP.sub [0, 1, 2, 4, 5, 3, 6, 7, 8, 9, 10, 11, 12, 14, 15, 13, 16, 17, 18, 19, 20, 21, 22, 24, 25, 23, 26, 27, 28, 29, 30, 31] (hh_fm rfl)
  have hD : va_D (fun q => s.heap.size ≤ q) WCu := by rw [hWC, ha, hlf, hadA]; exact hD.sub [0, 1, 2, 4, 5, 3, 6, 7, 8, 9, 10, 11, 12, 14, 15, 13, 16, 17, 18, 19, 20, 21, 22, 24, 25, 23, 26, 27, 28, 29, 30, 31] (by decide) rfl
  refine lv_astore_n (lv' := [(1, .ref adB), (0, .ref b)]) hx hb dL_law_7 rfl hl (by decide) rfl (fun ls hl => ?_)
  refine va_new (ci := 6) (fs := [.int (0 : Int32), .null, .null, .null, .null, .null, .null, .null, .null, .null, .null, .null, .null, .null, .null, .null, .null, .null, .null, .null, .null, .null, .null, .null, .null, .null, .null, .null, .null, .null, .null, .null, .null, .null, .null, .null, .null, .null, .null, .null, .null, .int (0 : Int32)]) (C := RX6) (T := TX6) (N := 42) hx hb hts inW_X6 tyX6 tyX6_ok hown (hts _ wd_4_45) (hts _ wd_4_46) (hts _ wd_1_7) hK hP hD hS hA rfl (fun j hj => match j, hj with | 0, _ => rfl | 1, _ => rfl | 2, _ => rfl | 3, _ => rfl | 4, _ => rfl | 5, _ => rfl | 6, _ => rfl | 7, _ => rfl | 8, _ => rfl | 9, _ => rfl | 10, _ => rfl | 11, _ => rfl | 12, _ => rfl | 13, _ => rfl | 14, _ => rfl | 15, _ => rfl | 16, _ => rfl | 17, _ => rfl | 18, _ => rfl | 19, _ => rfl | 20, _ => rfl | 21, _ => rfl | 22, _ => rfl | 23, _ => rfl | 24, _ => rfl | 25, _ => rfl | 26, _ => rfl | 27, _ => rfl | 28, _ => rfl | 29, _ => rfl | 30, _ => rfl | 31, _ => rfl | 32, _ => rfl | 33, _ => rfl | 34, _ => rfl | 35, _ => rfl | 36, _ => rfl | 37, _ => rfl | 38, _ => rfl | 39, _ => rfl | 40, _ => rfl | 41, _ => rfl | j + 42, hj => absurd hj (by omega)) (Nat.le_of_ble_eq_true rfl) (Nat.le_of_ble_eq_true rfl) dL_law_8 (fun adM H hP hD hS => ?_)
  refine lv_dup hx hb dL_law_11 rfl ?_
  refine lw_RvE (wl := WCu) (wr := [(adM, .inr (6, [.int (0 : Int32), .null, .null, .null, .null, .null, .null, .null, .null, .null, .null, .null, .null, .null, .null, .null, .null, .null, .null, .null, .null, .null, .null, .null, .null, .null, .null, .null, .null, .null, .null, .null, .null, .null, .null, .null, .null, .null, .null, .null, .null, .int (0 : Int32)]))]) (rest := [.ref adM]) (va_runI (As := []) (rest := [.ref adM]) ⟨hx, hb, hml, hown, hts⟩ (c_X6_init l dC dI cI cJ cZ cO adM _) (cwI 0 hts (gd_I wd_4_49) rfl rfl rfl (hts _ wd_1_7) (hts _ wd_4_47) (hts _ wd_4_48) rfl (by decide +kernel) ⟨Nat.le_of_ble_eq_true rfl, Nat.le_of_ble_eq_true rfl⟩) (lw_pRS (As := .ref adM :: []) gU_c (fun _ _ _ => trivial) hK hP hD) rfl rfl hl.1 rfl (lv_room (Nat.le_of_ble_eq_true rfl)) dL_law_12 ⟨Nat.le_of_ble_eq_true rfl, Nat.le_of_ble_eq_true rfl⟩) hP hD hS hA (fun v H locs hP hD hS => ?_)
  obtain ⟨am, ham⟩ : ∃ z : QT, z = (adM, v.1, v.2.1, v.2.2.1, v.2.2.2.1, v.2.2.2.2.1, v.2.2.2.2.2.1, v.2.2.2.2.2.2.1, v.2.2.2.2.2.2.2.1, v.2.2.2.2.2.2.2.2.1, v.2.2.2.2.2.2.2.2.2.1, v.2.2.2.2.2.2.2.2.2.2.1, v.2.2.2.2.2.2.2.2.2.2.2.1, v.2.2.2.2.2.2.2.2.2.2.2.2.1, v.2.2.2.2.2.2.2.2.2.2.2.2.2.1, v.2.2.2.2.2.2.2.2.2.2.2.2.2.2.1, v.2.2.2.2.2.2.2.2.2.2.2.2.2.2.2.1, v.2.2.2.2.2.2.2.2.2.2.2.2.2.2.2.2.1, v.2.2.2.2.2.2.2.2.2.2.2.2.2.2.2.2.2.1, v.2.2.2.2.2.2.2.2.2.2.2.2.2.2.2.2.2.2.1, v.2.2.2.2.2.2.2.2.2.2.2.2.2.2.2.2.2.2.2.1, v.2.2.2.2.2.2.2.2.2.2.2.2.2.2.2.2.2.2.2.2.1, v.2.2.2.2.2.2.2.2.2.2.2.2.2.2.2.2.2.2.2.2.2.1, v.2.2.2.2.2.2.2.2.2.2.2.2.2.2.2.2.2.2.2.2.2.2.1, v.2.2.2.2.2.2.2.2.2.2.2.2.2.2.2.2.2.2.2.2.2.2.2.1, v.2.2.2.2.2.2.2.2.2.2.2.2.2.2.2.2.2.2.2.2.2.2.2.2.1, v.2.2.2.2.2.2.2.2.2.2.2.2.2.2.2.2.2.2.2.2.2.2.2.2.2.1, v.2.2.2.2.2.2.2.2.2.2.2.2.2.2.2.2.2.2.2.2.2.2.2.2.2.2.1, v.2.2.2.2.2.2.2.2.2.2.2.2.2.2.2.2.2.2.2.2.2.2.2.2.2.2.2.1, v.2.2.2.2.2.2.2.2.2.2.2.2.2.2.2.2.2.2.2.2.2.2.2.2.2.2.2.2.1, v.2.2.2.2.2.2.2.2.2.2.2.2.2.2.2.2.2.2.2.2.2.2.2.2.2.2.2.2.2.1, v.2.2.2.2.2.2.2.2.2.2.2.2.2.2.2.2.2.2.2.2.2.2.2.2.2.2.2.2.2.2.1, v.2.2.2.2.2.2.2.2.2.2.2.2.2.2.2.2.2.2.2.2.2.2.2.2.2.2.2.2.2.2.2.1, v.2.2.2.2.2.2.2.2.2.2.2.2.2.2.2.2.2.2.2.2.2.2.2.2.2.2.2.2.2.2.2.2.1, v.2.2.2.2.2.2.2.2.2.2.2.2.2.2.2.2.2.2.2.2.2.2.2.2.2.2.2.2.2.2.2.2.2.1, v.2.2.2.2.2.2.2.2.2.2.2.2.2.2.2.2.2.2.2.2.2.2.2.2.2.2.2.2.2.2.2.2.2.2.1, v.2.2.2.2.2.2.2.2.2.2.2.2.2.2.2.2.2.2.2.2.2.2.2.2.2.2.2.2.2.2.2.2.2.2.2.1, v.2.2.2.2.2.2.2.2.2.2.2.2.2.2.2.2.2.2.2.2.2.2.2.2.2.2.2.2.2.2.2.2.2.2.2.2.1, v.2.2.2.2.2.2.2.2.2.2.2.2.2.2.2.2.2.2.2.2.2.2.2.2.2.2.2.2.2.2.2.2.2.2.2.2.2.1, v.2.2.2.2.2.2.2.2.2.2.2.2.2.2.2.2.2.2.2.2.2.2.2.2.2.2.2.2.2.2.2.2.2.2.2.2.2.2.1, v.2.2.2.2.2.2.2.2.2.2.2.2.2.2.2.2.2.2.2.2.2.2.2.2.2.2.2.2.2.2.2.2.2.2.2.2.2.2.2) := ⟨_, rfl⟩
  obtain ⟨WMv, hWM⟩ : ∃ z : va_W, z = wM cI cJ cZ am iM := ⟨_, rfl⟩
  have hadM : yq_adM am = adM := by rw [ham]
  have hP : va_P (dC, dI) vwCl (WCu ++ WMv) H := by rw [hWM, ham]; exact hP
  have hD : va_D (fun q => s.heap.size ≤ q) (WCu ++ WMv) := by rw [hWM, ham]; exact hD
  refine lv_astore_n (lv' := [(2, .ref adM), (1, .ref adB), (0, .ref b)]) hx hb dL_law_15 rfl hl (by decide) rfl (fun ls hl => ?_)
  refine lv_iconst (v := 1) hx hb dL_law_16 (by decide) ?_
  refine hh_newJ (cI := cI) (cJ := cJ) (cZ := cZ) (cO := cO) (N9 := 1) hx hb (hts _ wd_1_80) hK hP hD hS hA (by decide) (by decide) (by decide) (Nat.le_of_ble_eq_true rfl) (Nat.le_of_ble_eq_true rfl) dL_law_17 (fun adU H hP hD hS => ?_)
  refine lv_astore_n (lv' := [(3, .ref adU), (2, .ref adM), (1, .ref adB), (0, .ref b)]) hx hb dL_law_19 rfl hl (by decide) rfl (fun ls hl => ?_)
  refine lv_iconst (v := 0) hx hb dL_law_20 (by decide) ?_
  refine lv_istore (lv' := [(4, .int (nI 0)), (3, .ref adU), (2, .ref adM), (1, .ref adB), (0, .ref b)]) hx hb dL_law_21 hl (by decide) rfl (fun ls hl => ?_)
  have hp : ((WCu ++ WMv) ++ [zAJ cJ adU 1 (fun _ => 0)]).Perm (wG cI cJ cO adU (fun _ => 0) adB adA lf 0 a (iL, iL, iL) (wM cI cJ cZ am iM)) := by
    rw [hWC, hWM]
    exact pe_st _ _ _ _ _ _ _
  rw [← hadM] at hl
  have K : KX p l s m meth c b L xs (dC, dI) cI cJ cZ cO lf a := ⟨hx, hb, hr, hml, hown, hts, hX, hbl, hlocks, hGW, hfl, hK, hf0, hf1, hf2, hL⟩
  exact law_loop K (cb := 74) (sb := 504) (by decide) (by decide) (L + 1) 0 (by omega) (by omega) (fun _ => 0) 0 (iL, iL, iL) iM H _ ls rel_init (pm_P hp hP) (pm_D hp hD) hS (lv_sub hl [0, 4, 3, 2, 1] rfl)
