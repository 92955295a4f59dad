theorem bn_pe (x y z w : Nat × va_E) (v : va_W) : ([w] ++ ([z] ++ ([y] ++ ([x] ++ v)))).Perm ([x, y, z, w] ++ v) := by
  show ([w, z, y, x] ++ v).Perm ([x, y, z, w] ++ v)
  exact ((List.reverse_perm [x, y, z, w]).append_right v)
set_option maxHeartbeats 4000000 in
set_option maxRecDepth 100000 in
theorem c_L_bench (l : Launch) (dC : Nat → ClassId) (dI : Nat → Nat → Nat) (cI cJ cZ cO : ClassId) (b L : Nat) (xs : Nat → Int32) (fr : Nat) (sz : Nat) (hL : L ≤ 260) (hfr : fr ≤ 270) : Met l yL_bench (Cond.code yL_bench cL_bench 13 (some .boolean) :: wAll) ({ frames := 9, cells := 26436, slots := 79610, locals := 226 }) (va_Pc [.ref b, .int (nI fr)] (gP (dC, dI) [] (tyG cI cJ cZ cO) sz (gX b L xs))) (va_Qi (fun r (_ : Unit) => r = 1) (fun _ t => gB (dC, dI) (va_A [] sz) [] (tyG cI cJ cZ cO) t) (va_A [] sz)) 26436 79610 (va_A [] sz) := by
  refine Met.ofW (cc := cL_bench) (maxL := 13) (ret := (some .boolean)) (by decide) rfl ?_
  intro p e s m args below meth c s₁ B hml hv
  obtain ⟨rfl, hsz, hP, hK, hD0, hGX⟩ := hv
  have hx := B.exec
  have hb := B.bytes
  have hr := B.returns
  have hts := ht_of B.pre
  have hown : s.vm.findClass RL = some m.cls := findClass_of_methodNamed B.named
  have hlocks := B.notSynchronized
  subst hsz
  have hD := hD0.self (sz := s.heap.size)
  have hbA0 := nA_of hGX.2.2
  generalize hAe : va_A [] s.heap.size = A at hD hbA0 ⊢
  have hA : ∀ q : Nat, s.heap.size ≤ q → A q := fun q h => by rw [← hAe]; exact Or.inr h
  have hS : va_S A s.heap s.heap [] := va_S.rf
  have hl := lv_entry ([.ref b, .int (nI fr)]) (n := 13) (Nat.le_of_ble_eq_true rfl)
  rw [lg_entry_eq]
  generalize (lg_sl ([.ref b, .int (nI fr)]) ++ List.replicate (13 - (lg_sl ([.ref b, .int (nI fr)])).length) Slot.unset).toArray = ls at hl ⊢
  have hl : lv_has ls 13 [(0, .ref b), (1, .int (nI fr))] := hl
  refine hh_name (fun Q hQ => ?_)
  have hcs : (0 : Nat) ≤ 26436 ∧ (0 : Nat) ≤ 79610 := ⟨Nat.zero_le _, Nat.zero_le _⟩
  have hGO : gO s := hGX.1
  have hG : gN s := hGX.1.1
  refine va_new (ci := 5) (fs := [.null, .int (0 : Int32)]) (C := RX5) (T := TX5) (N := 2) hx hb hts inW_X5 tyX5 tyX5_ok hown (hts _ wd_1_17) (hts _ wd_1_18) (hts _ wd_1_1) hK hP hD hS hA rfl (fun j hj => match j, hj with | 0, _ => rfl | 1, _ => rfl | j + 2, hj => absurd hj (by omega)) (Nat.le_of_ble_eq_true rfl) (Nat.le_of_ble_eq_true rfl) dL_bench_0 (fun adB H hP hD hS => ?_)
  refine lv_dup hx hb dL_bench_3 rfl ?_
  refine lw_RvE (wl := []) (wr := [(adB, .inr (5, [.null, .int (0 : Int32)]))]) (rest := [.ref adB]) (va_runI (As := []) (rest := [.ref adB]) ⟨hx, hb, hml, hown, hts⟩ (c_X5_init l dC dI cI cJ cZ cO adB _) (cwI 0 hts (gd_I wd_1_21) rfl rfl rfl (hts _ wd_1_1) (hts _ wd_1_19) (hts _ wd_1_20) rfl (by decide +kernel) ⟨Nat.le_of_ble_eq_true rfl, Nat.le_of_ble_eq_true rfl⟩) (lw_pRS (As := .ref adB :: []) gO_c (fun U _ hW => gO_w hW hGO) hK hP hD) rfl rfl hl.1 rfl (lv_room (Nat.le_of_ble_eq_true rfl)) dL_bench_4 ⟨Nat.le_of_ble_eq_true rfl, Nat.le_of_ble_eq_true rfl⟩) hP hD hS hA (fun u H locs hP hD hS => ?_)
  obtain ⟨a, ha⟩ : ∃ z : Nat → AT, z = (fun k : Nat => if k = 0 then ((u.2.1, u.2.2.2.1, u.2.2.2.2.1, u.2.2.1, u.2.2.2.2.2.1, u.2.2.2.2.2.2.1, u.2.2.2.2.2.2.2.1, u.2.2.2.2.2.2.2.2.1, u.2.2.2.2.2.2.2.2.2.1, u.2.2.2.2.2.2.2.2.2.2.1) : AT) else if k = 1 then ((u.2.2.2.2.2.2.2.2.2.2.2.1, u.2.2.2.2.2.2.2.2.2.2.2.2.2.1, u.2.2.2.2.2.2.2.2.2.2.2.2.2.2.1, u.2.2.2.2.2.2.2.2.2.2.2.2.1, u.2.2.2.2.2.2.2.2.2.2.2.2.2.2.2.1, u.2.2.2.2.2.2.2.2.2.2.2.2.2.2.2.2.1, u.2.2.2.2.2.2.2.2.2.2.2.2.2.2.2.2.2.1, u.2.2.2.2.2.2.2.2.2.2.2.2.2.2.2.2.2.2.1, u.2.2.2.2.2.2.2.2.2.2.2.2.2.2.2.2.2.2.2.1, u.2.2.2.2.2.2.2.2.2.2.2.2.2.2.2.2.2.2.2.2.1) : AT) else ((u.2.2.2.2.2.2.2.2.2.2.2.2.2.2.2.2.2.2.2.2.2.1, u.2.2.2.2.2.2.2.2.2.2.2.2.2.2.2.2.2.2.2.2.2.2.2.1, u.2.2.2.2.2.2.2.2.2.2.2.2.2.2.2.2.2.2.2.2.2.2.2.2.1, u.2.2.2.2.2.2.2.2.2.2.2.2.2.2.2.2.2.2.2.2.2.2.1, u.2.2.2.2.2.2.2.2.2.2.2.2.2.2.2.2.2.2.2.2.2.2.2.2.2.1, u.2.2.2.2.2.2.2.2.2.2.2.2.2.2.2.2.2.2.2.2.2.2.2.2.2.2.1, u.2.2.2.2.2.2.2.2.2.2.2.2.2.2.2.2.2.2.2.2.2.2.2.2.2.2.2.1, u.2.2.2.2.2.2.2.2.2.2.2.2.2.2.2.2.2.2.2.2.2.2.2.2.2.2.2.2.1, u.2.2.2.2.2.2.2.2.2.2.2.2.2.2.2.2.2.2.2.2.2.2.2.2.2.2.2.2.2.1, u.2.2.2.2.2.2.2.2.2.2.2.2.2.2.2.2.2.2.2.2.2.2.2.2.2.2.2.2.2.2) : AT)) := ⟨_, rfl⟩
  obtain ⟨lf, hlfe⟩ : ∃ z : Nat → Option Nat, z = (va_up (va_up (va_up (fun _ => none) (0 : Int32).toNatClampNeg (some u.2.1)) (1 : Int32).toNatClampNeg (some u.2.2.2.2.2.2.2.2.2.2.2.1)) (2 : Int32).toNatClampNeg (some u.2.2.2.2.2.2.2.2.2.2.2.2.2.2.2.2.2.2.2.2.2.1)) := ⟨_, rfl⟩
  obtain ⟨adA, hadA⟩ : ∃ z : Nat, z = u.1 := ⟨_, rfl⟩
  have hlf : ∀ j : Nat, j < 3 → lf (nI j).toNatClampNeg = some (ya_adL (a j)) := by
    intro j hj
    rcases (show j = 0 ∨ j = 1 ∨ j = 2 by omega) with rfl | rfl | rfl <;> (rw [hlfe, ha]; rfl)
  obtain ⟨WBu, hWB⟩ : ∃ z : va_W, z = wB cI cJ cO adB adA lf (0 : Int32) a (fun _ => iL) := ⟨_, rfl⟩
  have hP : va_P (dC, dI) vwCl WBu H := by rw [hWB, ha, hlfe, hadA]; exact hP.sub [0, 1, 2, 4, 5, 3, 6, 7, 8, 9, 10, 11, 12, 14, 15, 13, 16, 17, 18, 19, 20, 21, 22, 24, 25, 23, 26, 27, 28, 29, 30, 31] (hh_fm rfl)
  have hD : va_D A WBu := by rw [hWB, ha, hlfe, hadA]; exact hD.sub [0, 1, 2, 4, 5, 3, 6, 7, 8, 9, 10, 11, 12, 14, 15, 13, 16, 17, 18, 19, 20, 21, 22, 24, 25, 23, 26, 27, 28, 29, 30, 31] (by decide) rfl
  have hP : va_P (dC, dI) vwCl ([] ++ wB cI cJ cO adB adA lf (0 : Int32) a (fun _ => iL)) H := by rw [← hWB]; exact hP
  have hD : va_D A ([] ++ wB cI cJ cO adB adA lf (0 : Int32) a (fun _ => iL)) := by rw [← hWB]; exact hD
  refine lv_astore_n (lv' := [(2, .ref adB), (0, .ref b), (1, .int (nI fr))]) hx hb dL_bench_7 rfl hl (by decide) rfl (fun ls hl => ?_)
  refine lv_bipush (v := 60) hx hb dL_bench_8 (by decide) ?_
  refine hh_newJ (cI := cI) (cJ := cJ) (cZ := cZ) (cO := cO) (N9 := 60) hx hb (hts _ wd_1_82) hK hP hD hS hA (by decide) (by decide) (by decide) (Nat.le_of_ble_eq_true rfl) (Nat.le_of_ble_eq_true rfl) dL_bench_10 (fun adW H hP hD hS => ?_)
  have hP := pm_P (pe_nw _ _) hP
  have hD := pm_D (pe_nw _ _) hD
  have hP : va_P (dC, dI) vwCl ([zAJ cJ adW 60 (fun _ => 0)] ++ wB cI cJ cO adB adA lf (0 : Int32) a (fun _ => iL)) H := hP
  have hD : va_D A ([zAJ cJ adW 60 (fun _ => 0)] ++ wB cI cJ cO adB adA lf (0 : Int32) a (fun _ => iL)) := hD
  refine lv_astore_n (lv' := [(3, .ref adW), (2, .ref adB), (0, .ref b), (1, .int (nI fr))]) hx hb dL_bench_12 rfl hl (by decide) rfl (fun ls hl => ?_)
  refine lv_bipush (v := 33) hx hb dL_bench_13 (by decide) ?_
  refine hh_newJ (cI := cI) (cJ := cJ) (cZ := cZ) (cO := cO) (N9 := 33) hx hb (hts _ wd_1_82) hK hP hD hS hA (by decide) (by decide) (by decide) (Nat.le_of_ble_eq_true rfl) (Nat.le_of_ble_eq_true rfl) dL_bench_15 (fun adU H hP hD hS => ?_)
  have hP := pm_P (pe_nw _ _) hP
  have hD := pm_D (pe_nw _ _) hD
  have hP : va_P (dC, dI) vwCl ([zAJ cJ adU 33 (fun _ => 0), zAJ cJ adW 60 (fun _ => 0)] ++ wB cI cJ cO adB adA lf (0 : Int32) a (fun _ => iL)) H := hP
  have hD : va_D A ([zAJ cJ adU 33 (fun _ => 0), zAJ cJ adW 60 (fun _ => 0)] ++ wB cI cJ cO adB adA lf (0 : Int32) a (fun _ => iL)) := hD
  refine lv_astore (lv' := [(4, .ref adU), (3, .ref adW), (2, .ref adB), (0, .ref b), (1, .int (nI fr))]) hx hb dL_bench_17 hl (by decide) rfl (fun ls hl => ?_)
  refine lv_bipush (v := 60) hx hb dL_bench_19 (by decide) ?_
  refine hh_newJ (cI := cI) (cJ := cJ) (cZ := cZ) (cO := cO) (N9 := 60) hx hb (hts _ wd_1_82) hK hP hD hS hA (by decide) (by decide) (by decide) (Nat.le_of_ble_eq_true rfl) (Nat.le_of_ble_eq_true rfl) dL_bench_21 (fun adG H hP hD hS => ?_)
  have hP := pm_P (pe_nw _ _) hP
  have hD := pm_D (pe_nw _ _) hD
  have hP : va_P (dC, dI) vwCl ([zAJ cJ adG 60 (fun _ => 0), zAJ cJ adU 33 (fun _ => 0), zAJ cJ adW 60 (fun _ => 0)] ++ wB cI cJ cO adB adA lf (0 : Int32) a (fun _ => iL)) H := hP
  have hD : va_D A ([zAJ cJ adG 60 (fun _ => 0), zAJ cJ adU 33 (fun _ => 0), zAJ cJ adW 60 (fun _ => 0)] ++ wB cI cJ cO adB adA lf (0 : Int32) a (fun _ => iL)) := hD
  refine lv_astore (lv' := [(5, .ref adG), (4, .ref adU), (3, .ref adW), (2, .ref adB), (0, .ref b), (1, .int (nI fr))]) hx hb dL_bench_23 hl (by decide) rfl (fun ls hl => ?_)
  refine lv_bipush (v := 6) hx hb dL_bench_25 (by decide) ?_
  refine hh_newI (cI := cI) (cJ := cJ) (cZ := cZ) (cO := cO) (N9 := 6) hx hb (hts _ wd_1_164) hK hP hD hS hA (by decide) (by decide) (by decide) (Nat.le_of_ble_eq_true rfl) (Nat.le_of_ble_eq_true rfl) dL_bench_27 (fun adN H hP hD hS => ?_)
  have hP := pm_P (pe_nw _ _) hP
  have hD := pm_D (pe_nw _ _) hD
  have hP : va_P (dC, dI) vwCl ([zAI cI adN 6 (fun _ => 0), zAJ cJ adG 60 (fun _ => 0), zAJ cJ adU 33 (fun _ => 0), zAJ cJ adW 60 (fun _ => 0)] ++ wB cI cJ cO adB adA lf (0 : Int32) a (fun _ => iL)) H := hP
  have hD : va_D A ([zAI cI adN 6 (fun _ => 0), zAJ cJ adG 60 (fun _ => 0), zAJ cJ adU 33 (fun _ => 0), zAJ cJ adW 60 (fun _ => 0)] ++ wB cI cJ cO adB adA lf (0 : Int32) a (fun _ => iL)) := hD
  refine lv_astore (lv' := [(6, .ref adN), (5, .ref adG), (4, .ref adU), (3, .ref adW), (2, .ref adB), (0, .ref b), (1, .int (nI fr))]) hx hb dL_bench_29 hl (by decide) rfl (fun ls hl => ?_)
  have hP := pm_P (bn_pe _ _ _ _ _) hP
  have hD := pm_D (bn_pe _ _ _ _ _) hD
  have hP : va_P (dC, dI) vwCl ([zAJ cJ adW 60 (fun _ => 0), zAJ cJ adU 33 (fun _ => 0), zAJ cJ adG 60 (fun _ => 0), zAI cI adN 6 (fun _ => 0)] ++ wB cI cJ cO adB adA lf (0 : Int32) a (fun _ => iL)) H := hP
  have hD : va_D A ([zAJ cJ adW 60 (fun _ => 0), zAJ cJ adU 33 (fun _ => 0), zAJ cJ adG 60 (fun _ => 0), zAI cI adN 6 (fun _ => 0)] ++ wB cI cJ cO adB adA lf (0 : Int32) a (fun _ => iL)) := hD
  refine lv_iconst (v := 0) hx hb dL_bench_31 (by decide) ?_
  refine lv_istore (lv' := [(7, .int (0 : Int32)), (6, .ref adN), (5, .ref adG), (4, .ref adU), (3, .ref adW), (2, .ref adB), (0, .ref b), (1, .int (nI fr))]) hx hb dL_bench_32 hl (by decide) rfl (fun ls hl => ?_)
  refine lv_iconst (v := 0) hx hb dL_bench_34 (by decide) ?_
  refine lv_istore (lv' := [(8, .int (0 : Int32)), (7, .int (0 : Int32)), (6, .ref adN), (5, .ref adG), (4, .ref adU), (3, .ref adW), (2, .ref adB), (0, .ref b), (1, .int (nI fr))]) hx hb dL_bench_35 hl (by decide) rfl (fun ls hl => ?_)
  refine lv_iload hx hb dL_bench_37 (lv_at hl 0 rfl) ?_
  refine lv_iconst (v := 3) hx hb dL_bench_39 (by decide) ?_
  refine lv_icmp_ge (tgt := 84) hx hb dL_bench_40 (by decide) (fun h9 => absurd h9 (by decide)) (fun _ => ?_)
  refine lv_aload_n hx hb dL_bench_43 rfl (lv_at hl 5 rfl) ?_
  refine lv_bipush (v := 20) hx hb dL_bench_44 (by decide) ?_
  refine lv_iload hx hb dL_bench_46 (lv_at hl 0 rfl) ?_
  refine lv_imul hx hb dL_bench_48 ?_
  refine hh_seti (y := (0 : Int32)) (by decide) ?_
  refine lv_ldc2 (v := 800) hx hb hown (hts _ wd_2_21) dL_bench_49 ?_
  refine lr_ls hx hb hK hP hD hS 0 1 (e0 := 0) rfl rfl (by omega) (by decide) dL_bench_52 (w1 := ([zAJ cJ adW 60 (vp_updL (fun _ => 0) (0) (800 : Int64)), zAJ cJ adU 33 (fun _ => 0), zAJ cJ adG 60 (fun _ => 0), zAI cI adN 6 (fun _ => 0)] ++ wB cI cJ cO adB adA lf (0 : Int32) a (fun _ => iL))) rfl (fun H locs hP hD hS => ?_)
  refine lv_aload_n hx hb dL_bench_53 rfl (lv_at hl 5 rfl) ?_
  refine lv_bipush (v := 20) hx hb dL_bench_54 (by decide) ?_
  refine lv_iload hx hb dL_bench_56 (lv_at hl 0 rfl) ?_
  refine lv_imul hx hb dL_bench_58 ?_
  refine hh_seti (y := (0 : Int32)) (by decide) ?_
  refine lv_iconst (v := 2) hx hb dL_bench_59 (by decide) ?_
  refine lv_iadd hx hb dL_bench_60 ?_
  refine hh_seti (y := (2 : Int32)) (by decide) ?_
  refine lv_ldc2 (v := 200) hx hb hown (hts _ wd_2_22) dL_bench_61 ?_
  refine lr_ls hx hb hK hP hD hS 0 1 (e0 := 2) rfl rfl (by omega) (by decide) dL_bench_64 (w1 := ([zAJ cJ adW 60 (vp_updL (vp_updL (fun _ => 0) (0) (800 : Int64)) (2) (200 : Int64)), zAJ cJ adU 33 (fun _ => 0), zAJ cJ adG 60 (fun _ => 0), zAI cI adN 6 (fun _ => 0)] ++ wB cI cJ cO adB adA lf (0 : Int32) a (fun _ => iL))) rfl (fun H locs hP hD hS => ?_)
  refine lv_aload_n hx hb dL_bench_65 rfl (lv_at hl 5 rfl) ?_
  refine lv_bipush (v := 20) hx hb dL_bench_66 (by decide) ?_
  refine lv_iload hx hb dL_bench_68 (lv_at hl 0 rfl) ?_
  refine lv_imul hx hb dL_bench_70 ?_
  refine hh_seti (y := (0 : Int32)) (by decide) ?_
  refine lv_bipush (v := 6) hx hb dL_bench_71 (by decide) ?_
  refine lv_iadd hx hb dL_bench_73 ?_
  refine hh_seti (y := (6 : Int32)) (by decide) ?_
  refine lv_ldc2 (v := 100000) hx hb hown (hts _ wd_2_23) dL_bench_74 ?_
  refine lr_ls hx hb hK hP hD hS 0 1 (e0 := 6) rfl rfl (by omega) (by decide) dL_bench_77 (w1 := ([zAJ cJ adW 60 (vp_updL (vp_updL (vp_updL (fun _ => 0) (0) (800 : Int64)) (2) (200 : Int64)) (6) (100000 : Int64)), zAJ cJ adU 33 (fun _ => 0), zAJ cJ adG 60 (fun _ => 0), zAI cI adN 6 (fun _ => 0)] ++ wB cI cJ cO adB adA lf (0 : Int32) a (fun _ => iL))) rfl (fun H locs hP hD hS => ?_)
  refine lv_iinc (v := (1 : Int32)) (lv' := [(8, .int (1 : Int32)), (7, .int (0 : Int32)), (6, .ref adN), (5, .ref adG), (4, .ref adU), (3, .ref adW), (2, .ref adB), (0, .ref b), (1, .int (nI fr))]) hx hb dL_bench_78 hl (k := 0) rfl (by decide) (by decide) rfl (fun ls hl => ?_)
  refine lv_goto (tgt := 37) hx hb dL_bench_81 (by decide) ?_
  refine lv_iload hx hb dL_bench_37 (lv_at hl 0 rfl) ?_
  refine lv_iconst (v := 3) hx hb dL_bench_39 (by decide) ?_
  refine lv_icmp_ge (tgt := 84) hx hb dL_bench_40 (by decide) (fun h9 => absurd h9 (by decide)) (fun _ => ?_)
  refine lv_aload_n hx hb dL_bench_43 rfl (lv_at hl 5 rfl) ?_
  refine lv_bipush (v := 20) hx hb dL_bench_44 (by decide) ?_
  refine lv_iload hx hb dL_bench_46 (lv_at hl 0 rfl) ?_
  refine lv_imul hx hb dL_bench_48 ?_
  refine hh_seti (y := (20 : Int32)) (by decide) ?_
  refine lv_ldc2 (v := 800) hx hb hown (hts _ wd_2_21) dL_bench_49 ?_
  refine lr_ls hx hb hK hP hD hS 0 1 (e0 := 20) rfl rfl (by omega) (by decide) dL_bench_52 (w1 := ([zAJ cJ adW 60 (vp_updL (vp_updL (vp_updL (vp_updL (fun _ => 0) (0) (800 : Int64)) (2) (200 : Int64)) (6) (100000 : Int64)) (20) (800 : Int64)), zAJ cJ adU 33 (fun _ => 0), zAJ cJ adG 60 (fun _ => 0), zAI cI adN 6 (fun _ => 0)] ++ wB cI cJ cO adB adA lf (0 : Int32) a (fun _ => iL))) rfl (fun H locs hP hD hS => ?_)
  refine lv_aload_n hx hb dL_bench_53 rfl (lv_at hl 5 rfl) ?_
  refine lv_bipush (v := 20) hx hb dL_bench_54 (by decide) ?_
  refine lv_iload hx hb dL_bench_56 (lv_at hl 0 rfl) ?_
  refine lv_imul hx hb dL_bench_58 ?_
  refine hh_seti (y := (20 : Int32)) (by decide) ?_
  refine lv_iconst (v := 2) hx hb dL_bench_59 (by decide) ?_
  refine lv_iadd hx hb dL_bench_60 ?_
  refine hh_seti (y := (22 : Int32)) (by decide) ?_
  refine lv_ldc2 (v := 200) hx hb hown (hts _ wd_2_22) dL_bench_61 ?_
  refine lr_ls hx hb hK hP hD hS 0 1 (e0 := 22) rfl rfl (by omega) (by decide) dL_bench_64 (w1 := ([zAJ cJ adW 60 (vp_updL (vp_updL (vp_updL (vp_updL (vp_updL (fun _ => 0) (0) (800 : Int64)) (2) (200 : Int64)) (6) (100000 : Int64)) (20) (800 : Int64)) (22) (200 : Int64)), zAJ cJ adU 33 (fun _ => 0), zAJ cJ adG 60 (fun _ => 0), zAI cI adN 6 (fun _ => 0)] ++ wB cI cJ cO adB adA lf (0 : Int32) a (fun _ => iL))) rfl (fun H locs hP hD hS => ?_)
  refine lv_aload_n hx hb dL_bench_65 rfl (lv_at hl 5 rfl) ?_
  refine lv_bipush (v := 20) hx hb dL_bench_66 (by decide) ?_
  refine lv_iload hx hb dL_bench_68 (lv_at hl 0 rfl) ?_
  refine lv_imul hx hb dL_bench_70 ?_
  refine hh_seti (y := (20 : Int32)) (by decide) ?_
  refine lv_bipush (v := 6) hx hb dL_bench_71 (by decide) ?_
  refine lv_iadd hx hb dL_bench_73 ?_
  refine hh_seti (y := (26 : Int32)) (by decide) ?_
  refine lv_ldc2 (v := 100000) hx hb hown (hts _ wd_2_23) dL_bench_74 ?_
  refine lr_ls hx hb hK hP hD hS 0 1 (e0 := 26) rfl rfl (by omega) (by decide) dL_bench_77 (w1 := ([zAJ cJ adW 60 (vp_updL (vp_updL (vp_updL (vp_updL (vp_updL (vp_updL (fun _ => 0) (0) (800 : Int64)) (2) (200 : Int64)) (6) (100000 : Int64)) (20) (800 : Int64)) (22) (200 : Int64)) (26) (100000 : Int64)), zAJ cJ adU 33 (fun _ => 0), zAJ cJ adG 60 (fun _ => 0), zAI cI adN 6 (fun _ => 0)] ++ wB cI cJ cO adB adA lf (0 : Int32) a (fun _ => iL))) rfl (fun H locs hP hD hS => ?_)
  refine lv_iinc (v := (2 : Int32)) (lv' := [(8, .int (2 : Int32)), (7, .int (0 : Int32)), (6, .ref adN), (5, .ref adG), (4, .ref adU), (3, .ref adW), (2, .ref adB), (0, .ref b), (1, .int (nI fr))]) hx hb dL_bench_78 hl (k := 0) rfl (by decide) (by decide) rfl (fun ls hl => ?_)
  refine lv_goto (tgt := 37) hx hb dL_bench_81 (by decide) ?_
  refine lv_iload hx hb dL_bench_37 (lv_at hl 0 rfl) ?_
  refine lv_iconst (v := 3) hx hb dL_bench_39 (by decide) ?_
  refine lv_icmp_ge (tgt := 84) hx hb dL_bench_40 (by decide) (fun h9 => absurd h9 (by decide)) (fun _ => ?_)
  refine lv_aload_n hx hb dL_bench_43 rfl (lv_at hl 5 rfl) ?_
  refine lv_bipush (v := 20) hx hb dL_bench_44 (by decide) ?_
  refine lv_iload hx hb dL_bench_46 (lv_at hl 0 rfl) ?_
  refine lv_imul hx hb dL_bench_48 ?_
  refine hh_seti (y := (40 : Int32)) (by decide) ?_
  refine lv_ldc2 (v := 800) hx hb hown (hts _ wd_2_21) dL_bench_49 ?_
  refine lr_ls hx hb hK hP hD hS 0 1 (e0 := 40) rfl rfl (by omega) (by decide) dL_bench_52 (w1 := ([zAJ cJ adW 60 (vp_updL (vp_updL (vp_updL (vp_updL (vp_updL (vp_updL (vp_updL (fun _ => 0) (0) (800 : Int64)) (2) (200 : Int64)) (6) (100000 : Int64)) (20) (800 : Int64)) (22) (200 : Int64)) (26) (100000 : Int64)) (40) (800 : Int64)), zAJ cJ adU 33 (fun _ => 0), zAJ cJ adG 60 (fun _ => 0), zAI cI adN 6 (fun _ => 0)] ++ wB cI cJ cO adB adA lf (0 : Int32) a (fun _ => iL))) rfl (fun H locs hP hD hS => ?_)
  refine lv_aload_n hx hb dL_bench_53 rfl (lv_at hl 5 rfl) ?_
  refine lv_bipush (v := 20) hx hb dL_bench_54 (by decide) ?_
  refine lv_iload hx hb dL_bench_56 (lv_at hl 0 rfl) ?_
  refine lv_imul hx hb dL_bench_58 ?_
  refine hh_seti (y := (40 : Int32)) (by decide) ?_
  refine lv_iconst (v := 2) hx hb dL_bench_59 (by decide) ?_
  refine lv_iadd hx hb dL_bench_60 ?_
  refine hh_seti (y := (42 : Int32)) (by decide) ?_
  refine lv_ldc2 (v := 200) hx hb hown (hts _ wd_2_22) dL_bench_61 ?_
  refine lr_ls hx hb hK hP hD hS 0 1 (e0 := 42) rfl rfl (by omega) (by decide) dL_bench_64 (w1 := ([zAJ cJ adW 60 (vp_updL (vp_updL (vp_updL (vp_updL (vp_updL (vp_updL (vp_updL (vp_updL (fun _ => 0) (0) (800 : Int64)) (2) (200 : Int64)) (6) (100000 : Int64)) (20) (800 : Int64)) (22) (200 : Int64)) (26) (100000 : Int64)) (40) (800 : Int64)) (42) (200 : Int64)), zAJ cJ adU 33 (fun _ => 0), zAJ cJ adG 60 (fun _ => 0), zAI cI adN 6 (fun _ => 0)] ++ wB cI cJ cO adB adA lf (0 : Int32) a (fun _ => iL))) rfl (fun H locs hP hD hS => ?_)
  refine lv_aload_n hx hb dL_bench_65 rfl (lv_at hl 5 rfl) ?_
  refine lv_bipush (v := 20) hx hb dL_bench_66 (by decide) ?_
  refine lv_iload hx hb dL_bench_68 (lv_at hl 0 rfl) ?_
  refine lv_imul hx hb dL_bench_70 ?_
  refine hh_seti (y := (40 : Int32)) (by decide) ?_
  refine lv_bipush (v := 6) hx hb dL_bench_71 (by decide) ?_
  refine lv_iadd hx hb dL_bench_73 ?_
  refine hh_seti (y := (46 : Int32)) (by decide) ?_
  refine lv_ldc2 (v := 100000) hx hb hown (hts _ wd_2_23) dL_bench_74 ?_
  refine lr_ls hx hb hK hP hD hS 0 1 (e0 := 46) rfl rfl (by omega) (by decide) dL_bench_77 (w1 := ([zAJ cJ adW 60 (vp_updL (vp_updL (vp_updL (vp_updL (vp_updL (vp_updL (vp_updL (vp_updL (vp_updL (fun _ => 0) (0) (800 : Int64)) (2) (200 : Int64)) (6) (100000 : Int64)) (20) (800 : Int64)) (22) (200 : Int64)) (26) (100000 : Int64)) (40) (800 : Int64)) (42) (200 : Int64)) (46) (100000 : Int64)), zAJ cJ adU 33 (fun _ => 0), zAJ cJ adG 60 (fun _ => 0), zAI cI adN 6 (fun _ => 0)] ++ wB cI cJ cO adB adA lf (0 : Int32) a (fun _ => iL))) rfl (fun H locs hP hD hS => ?_)
  refine lv_iinc (v := (3 : Int32)) (lv' := [(8, .int (3 : Int32)), (7, .int (0 : Int32)), (6, .ref adN), (5, .ref adG), (4, .ref adU), (3, .ref adW), (2, .ref adB), (0, .ref b), (1, .int (nI fr))]) hx hb dL_bench_78 hl (k := 0) rfl (by decide) (by decide) rfl (fun ls hl => ?_)
  refine lv_goto (tgt := 37) hx hb dL_bench_81 (by decide) ?_
  refine lv_iload hx hb dL_bench_37 (lv_at hl 0 rfl) ?_
  refine lv_iconst (v := 3) hx hb dL_bench_39 (by decide) ?_
  refine lv_icmp_ge (tgt := 84) hx hb dL_bench_40 (by decide) (fun _ => ?_) (fun h9 => absurd h9 (by decide))
  refine lv_iconst (v := 0) hx hb dL_bench_84 (by decide) ?_
  refine lv_istore (lv' := [(8, .int (0 : Int32)), (7, .int (0 : Int32)), (6, .ref adN), (5, .ref adG), (4, .ref adU), (3, .ref adW), (2, .ref adB), (0, .ref b), (1, .int (nI fr))]) hx hb dL_bench_85 hl (by decide) rfl (fun ls hl => ?_)
  refine W.widen (k := 36) (n := 410) (Nat.le_of_ble_eq_true rfl) (Nat.le_of_ble_eq_true rfl) ?_
  have K := fx_mk hx hb hml hown hts hG hK hlf
  refine bn_loop (fr := fr) (a := a) (lf := lf) (xs := xs) (b := b) (L := L) (cells := 36) (slots := 410) K hGX hbA0 hL hfr ⟨Nat.le_of_ble_eq_true rfl, Nat.le_of_ble_eq_true rfl⟩ ⟨Nat.le_of_ble_eq_true rfl, Nat.le_of_ble_eq_true rfl⟩ hA (fun H locs ls hS hz => ?_) 44 0 (by decide) fwI (fun _ => 0) (fun _ => 0) (fun _ => 0) 0 (fun _ => iL) H _ ls (fun j hj => bn_fresh hj) (fun j hj => (bn_w j hj).2.2.2.2.2.2.2.2.2.2.2.2) hP hD hS (lv_sub hl [0, 1, 2, 3, 4, 5, 6, 7, 8] rfl)
  refine W.widen (k := 26436) (n := 79610) (Nat.le_of_ble_eq_true rfl) (Nat.le_of_ble_eq_true rfl) ?_
  refine lv_iconst (v := 1) hx hb dL_bench_242 (by decide) ?_
  exact hh_retS (w := fun _ => []) () hQ rfl rfl hx hb hr hlocks (fun k q h => by simp at h) hK ⟨fun i j p q h => by simp at h, fun k q h => by simp at h⟩ hS dL_bench_243
