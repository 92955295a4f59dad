set_option maxHeartbeats 4000000 in
set_option maxRecDepth 100000 in
theorem c_L_samples (l : Launch) (dC : Nat → ClassId) (dI : Nat → Nat → Nat) (cI cJ cZ cO : ClassId) (adB adA adW adU adG adN : Nat) (lf : Nat → Option Nat) (a : Nat → AT) (bs : Int32) (T : Nat → LT) (fw fu fg : Nat → Int64) (fn : Nat → Int32) (sa : Int32) (sz : Nat) (hlf : ∀ j : Nat, j < 3 → lf (nI j).toNatClampNeg = some (ya_adL (a j))) (hbs : bs = sa) (hRP : ∀ j : Nat, j < 3 → RP j (T j) fw fu fg fn) : Met l yL_samples (Cond.code yL_samples cL_samples 25 (some .boolean) :: wAll) ({ frames := 8, cells := 5, slots := 15, locals := 182 }) (va_Pc [.ref adB, .ref adW, .ref adU, .ref adG, .ref adN, .int sa] (gP (dC, dI) ([zAJ cJ adW 60 fw, zAJ cJ adU 33 fu, zAJ cJ adG 60 fg, zAI cI adN 6 fn] ++ wB cI cJ cO adB adA lf bs a T) (tyG cI cJ cZ cO) sz gN)) (va_Qi (fun r (u : (Nat → Int64) × (Nat → Int64) × (Nat → Int32)) => r = 1 ∧ (∀ j : Nat, j < 3 → RP j (stepF T j) u.1 u.2.1 fg u.2.2) ∧ (∀ j : Nat, j < 3 → u.1 (20 * j + 15) = 0)) (fun u t => gB (dC, dI) (va_A ([zAJ cJ adW 60 fw, zAJ cJ adU 33 fu, zAJ cJ adG 60 fg, zAI cI adN 6 fn] ++ wB cI cJ cO adB adA lf bs a T) sz) ([zAJ cJ adW 60 u.1, zAJ cJ adU 33 u.2.1, zAJ cJ adG 60 fg, zAI cI adN 6 u.2.2] ++ wB cI cJ cO adB adA lf (bs + 1) a (stepF T)) (tyG cI cJ cZ cO) t) (va_A ([zAJ cJ adW 60 fw, zAJ cJ adU 33 fu, zAJ cJ adG 60 fg, zAI cI adN 6 fn] ++ wB cI cJ cO adB adA lf bs a T) sz)) 5 15 (va_A ([zAJ cJ adW 60 fw, zAJ cJ adU 33 fu, zAJ cJ adG 60 fg, zAI cI adN 6 fn] ++ wB cI cJ cO adB adA lf bs a T) sz) := by
  refine Met.ofW (cc := cL_samples) (maxL := 25) (ret := (some .boolean)) (by decide) rfl ?_
  intro p e s m args below meth c s₁ B hml hv
  obtain ⟨rfl, hsz, hP, hK, hD0, hG⟩ := hv
  have hx := B.exec
  have hb := B.bytes
  have hr := B.returns
  have hts := ht_of B.pre
  have hown : s.vm.findClass RL = some m.cls := findClass_of_methodNamed B.named
  have hlocks := B.notSynchronized
  subst hsz
  have hD := hD0.self (sz := s.heap.size)
  generalize hAe : va_A ([zAJ cJ adW 60 fw, zAJ cJ adU 33 fu, zAJ cJ adG 60 fg, zAI cI adN 6 fn] ++ wB cI cJ cO adB adA lf bs a T) s.heap.size = A at hD ⊢
  have hA : ∀ q : Nat, s.heap.size ≤ q → A q := fun q h => by rw [← hAe]; exact Or.inr h
  have hS : va_S A s.heap s.heap [] := va_S.rf
  have hl := lv_entry ([.ref adB, .ref adW, .ref adU, .ref adG, .ref adN, .int sa]) (n := 25) (Nat.le_of_ble_eq_true rfl)
  rw [lg_entry_eq]
  generalize (lg_sl ([.ref adB, .ref adW, .ref adU, .ref adG, .ref adN, .int sa]) ++ List.replicate (25 - (lg_sl ([.ref adB, .ref adW, .ref adU, .ref adG, .ref adN, .int sa])).length) Slot.unset).toArray = ls at hl ⊢
  have hl : lv_has ls 25 [(0, .ref adB), (1, .ref adW), (2, .ref adU), (3, .ref adG), (4, .ref adN), (5, .int sa)] := hl
  refine hh_name (fun Q hQ => ?_)
  have K := fx_mk hx hb hml hown hts hG hK hlf
  have hcs : (0 : Nat) ≤ 5 ∧ (0 : Nat) ≤ 15 := ⟨Nat.zero_le _, Nat.zero_le _⟩
  have hI : ∀ j : Nat, j < 3 → IvL (T j) := fun j hj => RP_iv (hRP j hj)
  refine lv_iconst (v := 3) hx hb dL_samples_0 (by decide) ?_
  refine hh_newI (cI := cI) (cJ := cJ) (cZ := cZ) (cO := cO) (N9 := 3) hx hb (hts _ wd_1_164) hK hP hD hS hA (by decide) (by decide) (by decide) (Nat.le_of_ble_eq_true rfl) (Nat.le_of_ble_eq_true rfl) dL_samples_1 (fun t6 H hP hD hS => ?_)
  have hP := pm_P (pe_nw _ _) hP
  have hD := pm_D (pe_nw _ _) hD
  have hP : va_P (dC, dI) vwCl ([zAI cI t6 3 (fun _ => 0), zAJ cJ adW 60 fw, zAJ cJ adU 33 fu, zAJ cJ adG 60 fg, zAI cI adN 6 fn] ++ wB cI cJ cO adB adA lf bs a T) H := hP
  have hD : va_D A ([zAI cI t6 3 (fun _ => 0), zAJ cJ adW 60 fw, zAJ cJ adU 33 fu, zAJ cJ adG 60 fg, zAI cI adN 6 fn] ++ wB cI cJ cO adB adA lf bs a T) := hD
  refine lv_astore (lv' := [(6, .ref t6), (0, .ref adB), (1, .ref adW), (2, .ref adU), (3, .ref adG), (4, .ref adN), (5, .int sa)]) hx hb dL_samples_3 hl (by decide) rfl (fun ls hl => ?_)
  refine lv_iconst (v := 3) hx hb dL_samples_5 (by decide) ?_
  refine hh_newI (cI := cI) (cJ := cJ) (cZ := cZ) (cO := cO) (N9 := 3) hx hb (hts _ wd_1_164) hK hP hD hS hA (by decide) (by decide) (by decide) (Nat.le_of_ble_eq_true rfl) (Nat.le_of_ble_eq_true rfl) dL_samples_6 (fun t7 H hP hD hS => ?_)
  have hP := pm_P (pe_nw _ _) hP
  have hD := pm_D (pe_nw _ _) hD
  have hP : va_P (dC, dI) vwCl ([zAI cI t7 3 (fun _ => 0), zAI cI t6 3 (fun _ => 0), zAJ cJ adW 60 fw, zAJ cJ adU 33 fu, zAJ cJ adG 60 fg, zAI cI adN 6 fn] ++ wB cI cJ cO adB adA lf bs a T) H := hP
  have hD : va_D A ([zAI cI t7 3 (fun _ => 0), zAI cI t6 3 (fun _ => 0), zAJ cJ adW 60 fw, zAJ cJ adU 33 fu, zAJ cJ adG 60 fg, zAI cI adN 6 fn] ++ wB cI cJ cO adB adA lf bs a T) := hD
  refine lv_astore (lv' := [(7, .ref t7), (6, .ref t6), (0, .ref adB), (1, .ref adW), (2, .ref adU), (3, .ref adG), (4, .ref adN), (5, .int sa)]) hx hb dL_samples_8 hl (by decide) rfl (fun ls hl => ?_)
  refine lv_iconst (v := 3) hx hb dL_samples_10 (by decide) ?_
  refine hh_newI (cI := cI) (cJ := cJ) (cZ := cZ) (cO := cO) (N9 := 3) hx hb (hts _ wd_1_164) hK hP hD hS hA (by decide) (by decide) (by decide) (Nat.le_of_ble_eq_true rfl) (Nat.le_of_ble_eq_true rfl) dL_samples_11 (fun t8 H hP hD hS => ?_)
  have hP := pm_P (pe_nw _ _) hP
  have hD := pm_D (pe_nw _ _) hD
  have hP : va_P (dC, dI) vwCl ([zAI cI t8 3 (fun _ => 0), zAI cI t7 3 (fun _ => 0), zAI cI t6 3 (fun _ => 0), zAJ cJ adW 60 fw, zAJ cJ adU 33 fu, zAJ cJ adG 60 fg, zAI cI adN 6 fn] ++ wB cI cJ cO adB adA lf bs a T) H := hP
  have hD : va_D A ([zAI cI t8 3 (fun _ => 0), zAI cI t7 3 (fun _ => 0), zAI cI t6 3 (fun _ => 0), zAJ cJ adW 60 fw, zAJ cJ adU 33 fu, zAJ cJ adG 60 fg, zAI cI adN 6 fn] ++ wB cI cJ cO adB adA lf bs a T) := hD
  refine lv_astore (lv' := [(8, .ref t8), (7, .ref t7), (6, .ref t6), (0, .ref adB), (1, .ref adW), (2, .ref adU), (3, .ref adG), (4, .ref adN), (5, .int sa)]) hx hb dL_samples_13 hl (by decide) rfl (fun ls hl => ?_)
  refine lv_iconst (v := 3) hx hb dL_samples_15 (by decide) ?_
  refine hh_newJ (cI := cI) (cJ := cJ) (cZ := cZ) (cO := cO) (N9 := 3) hx hb (hts _ wd_1_82) hK hP hD hS hA (by decide) (by decide) (by decide) (Nat.le_of_ble_eq_true rfl) (Nat.le_of_ble_eq_true rfl) dL_samples_16 (fun t9 H hP hD hS => ?_)
  have hP := pm_P (pe_nw _ _) hP
  have hD := pm_D (pe_nw _ _) hD
  have hP : va_P (dC, dI) vwCl ([zAJ cJ t9 3 (fun _ => 0), zAI cI t8 3 (fun _ => 0), zAI cI t7 3 (fun _ => 0), zAI cI t6 3 (fun _ => 0), zAJ cJ adW 60 fw, zAJ cJ adU 33 fu, zAJ cJ adG 60 fg, zAI cI adN 6 fn] ++ wB cI cJ cO adB adA lf bs a T) H := hP
  have hD : va_D A ([zAJ cJ t9 3 (fun _ => 0), zAI cI t8 3 (fun _ => 0), zAI cI t7 3 (fun _ => 0), zAI cI t6 3 (fun _ => 0), zAJ cJ adW 60 fw, zAJ cJ adU 33 fu, zAJ cJ adG 60 fg, zAI cI adN 6 fn] ++ wB cI cJ cO adB adA lf bs a T) := hD
  refine lv_astore (lv' := [(9, .ref t9), (8, .ref t8), (7, .ref t7), (6, .ref t6), (0, .ref adB), (1, .ref adW), (2, .ref adU), (3, .ref adG), (4, .ref adN), (5, .int sa)]) hx hb dL_samples_18 hl (by decide) rfl (fun ls hl => ?_)
  refine lv_iconst (v := 3) hx hb dL_samples_20 (by decide) ?_
  refine hh_newJ (cI := cI) (cJ := cJ) (cZ := cZ) (cO := cO) (N9 := 3) hx hb (hts _ wd_1_82) hK hP hD hS hA (by decide) (by decide) (by decide) (Nat.le_of_ble_eq_true rfl) (Nat.le_of_ble_eq_true rfl) dL_samples_21 (fun t10 H hP hD hS => ?_)
  have hP := pm_P (pe_nw _ _) hP
  have hD := pm_D (pe_nw _ _) hD
  have hP : va_P (dC, dI) vwCl ([zAJ cJ t10 3 (fun _ => 0), zAJ cJ t9 3 (fun _ => 0), zAI cI t8 3 (fun _ => 0), zAI cI t7 3 (fun _ => 0), zAI cI t6 3 (fun _ => 0), zAJ cJ adW 60 fw, zAJ cJ adU 33 fu, zAJ cJ adG 60 fg, zAI cI adN 6 fn] ++ wB cI cJ cO adB adA lf bs a T) H := hP
  have hD : va_D A ([zAJ cJ t10 3 (fun _ => 0), zAJ cJ t9 3 (fun _ => 0), zAI cI t8 3 (fun _ => 0), zAI cI t7 3 (fun _ => 0), zAI cI t6 3 (fun _ => 0), zAJ cJ adW 60 fw, zAJ cJ adU 33 fu, zAJ cJ adG 60 fg, zAI cI adN 6 fn] ++ wB cI cJ cO adB adA lf bs a T) := hD
  refine lv_astore (lv' := [(10, .ref t10), (9, .ref t9), (8, .ref t8), (7, .ref t7), (6, .ref t6), (0, .ref adB), (1, .ref adW), (2, .ref adU), (3, .ref adG), (4, .ref adN), (5, .int sa)]) hx hb dL_samples_23 hl (by decide) rfl (fun ls hl => ?_)
  refine W.widen (k := 5) (n := 15) (Nat.le_of_ble_eq_true rfl) (Nat.le_of_ble_eq_true rfl) ?_
  have hcs : (5 : Nat) ≤ 5 ∧ (15 : Nat) ≤ 15 := ⟨Nat.le_of_ble_eq_true rfl, Nat.le_of_ble_eq_true rfl⟩
  have hP := pm_P (pe_5 _ _ _ _ _ _) hP
  have hD := pm_D (pe_5 _ _ _ _ _ _) hD
  have hP : va_P (dC, dI) vwCl ([zAI cI t6 3 (fun _ => 0), zAI cI t7 3 (fun _ => 0), zAI cI t8 3 (fun _ => 0), zAJ cJ t9 3 (fun _ => 0), zAJ cJ t10 3 (fun _ => 0), zAJ cJ adW 60 fw, zAJ cJ adU 33 fu, zAJ cJ adG 60 fg, zAI cI adN 6 fn] ++ wB cI cJ cO adB adA lf bs a T) H := hP
  have hD : va_D A ([zAI cI t6 3 (fun _ => 0), zAI cI t7 3 (fun _ => 0), zAI cI t8 3 (fun _ => 0), zAJ cJ t9 3 (fun _ => 0), zAJ cJ t10 3 (fun _ => 0), zAJ cJ adW 60 fw, zAJ cJ adU 33 fu, zAJ cJ adG 60 fg, zAI cI adN 6 fn] ++ wB cI cJ cO adB adA lf bs a T) := hD
  refine lv_iconst (v := 0) hx hb dL_samples_25 (by decide) ?_
  refine lv_istore (lv' := [(11, .int (0 : Int32)), (10, .ref t10), (9, .ref t9), (8, .ref t8), (7, .ref t7), (6, .ref t6), (0, .ref adB), (1, .ref adW), (2, .ref adU), (3, .ref adG), (4, .ref adN), (5, .int sa)]) hx hb dL_samples_26 hl (by decide) rfl (fun ls hl => ?_)
  refine lv_iload hx hb dL_samples_28 (lv_at hl 0 rfl) ?_
  refine lv_iconst (v := 3) hx hb dL_samples_30 (by decide) ?_
  refine lv_icmp_ge (tgt := 95) hx hb dL_samples_31 (by decide) (fun h9 => absurd h9 (by decide)) (fun _ => ?_)
  refine lv_aload hx hb dL_samples_34 (lv_at hl 5 rfl) ?_
  refine lv_iload hx hb dL_samples_36 (lv_at hl 0 rfl) ?_
  refine lv_aload_n hx hb dL_samples_38 rfl (lv_at hl 6 rfl) ?_
  refine lv_iload hx hb dL_samples_39 (lv_at hl 0 rfl) ?_
  refine s_mode (k := 0)  K (by omega)  ⟨Nat.le_of_ble_eq_true rfl, Nat.le_of_ble_eq_true rfl⟩ hcs (Nat.le_of_ble_eq_true rfl) hP hD hS hA hl.1 dL_samples_41 (fun H locs hP hD hS => ?_)
  refine hh_seti (y := (yl_lmo (T 0))) (rfl) ?_
  refine lr_is hx hb hK hP hD hS 0 0 (e0 := 0) rfl rfl (by omega) (by decide) dL_samples_44 (w1 := ([zAI cI t6 3 (upd (fun _ => 0) (0) (yl_lmo (T 0))), zAI cI t7 3 (fun _ => 0), zAI cI t8 3 (fun _ => 0), zAJ cJ t9 3 (fun _ => 0), zAJ cJ t10 3 (fun _ => 0), zAJ cJ adW 60 fw, zAJ cJ adU 33 fu, zAJ cJ adG 60 fg, zAI cI adN 6 fn] ++ wB cI cJ cO adB adA lf bs a T)) rfl (fun H locs hP hD hS => ?_)
  refine lv_aload hx hb dL_samples_45 (lv_at hl 4 rfl) ?_
  refine lv_iload hx hb dL_samples_47 (lv_at hl 0 rfl) ?_
  refine lv_aload_n hx hb dL_samples_49 rfl (lv_at hl 6 rfl) ?_
  refine lv_iload hx hb dL_samples_50 (lv_at hl 0 rfl) ?_
  refine s_held (k := 0)  K (by omega)  ⟨Nat.le_of_ble_eq_true rfl, Nat.le_of_ble_eq_true rfl⟩ hcs (Nat.le_of_ble_eq_true rfl) hP hD hS hA hl.1 dL_samples_52 (fun H locs hP hD hS => ?_)
  refine hh_seti (y := (yl_khe (T 0))) (rfl) ?_
  refine lr_is hx hb hK hP hD hS 1 0 (e0 := 0) rfl rfl (by omega) (by decide) dL_samples_55 (w1 := ([zAI cI t6 3 (upd (fun _ => 0) (0) (yl_lmo (T 0))), zAI cI t7 3 (upd (fun _ => 0) (0) (yl_khe (T 0))), zAI cI t8 3 (fun _ => 0), zAJ cJ t9 3 (fun _ => 0), zAJ cJ t10 3 (fun _ => 0), zAJ cJ adW 60 fw, zAJ cJ adU 33 fu, zAJ cJ adG 60 fg, zAI cI adN 6 fn] ++ wB cI cJ cO adB adA lf bs a T)) rfl (fun H locs hP hD hS => ?_)
  refine lv_aload hx hb dL_samples_56 (lv_at hl 3 rfl) ?_
  refine lv_iload hx hb dL_samples_58 (lv_at hl 0 rfl) ?_
  refine lv_aload_n hx hb dL_samples_60 rfl (lv_at hl 6 rfl) ?_
  refine lv_iload hx hb dL_samples_61 (lv_at hl 0 rfl) ?_
  refine s_experiment (k := 0)  K (by omega)  ⟨Nat.le_of_ble_eq_true rfl, Nat.le_of_ble_eq_true rfl⟩ hcs (Nat.le_of_ble_eq_true rfl) hP hD hS hA hl.1 dL_samples_63 (fun H locs hP hD hS => ?_)
  refine hh_seti (y := (yl_rpr (T 0))) (rfl) ?_
  refine lr_is hx hb hK hP hD hS 2 0 (e0 := 0) rfl rfl (by omega) (by decide) dL_samples_66 (w1 := ([zAI cI t6 3 (upd (fun _ => 0) (0) (yl_lmo (T 0))), zAI cI t7 3 (upd (fun _ => 0) (0) (yl_khe (T 0))), zAI cI t8 3 (upd (fun _ => 0) (0) (yl_rpr (T 0))), zAJ cJ t9 3 (fun _ => 0), zAJ cJ t10 3 (fun _ => 0), zAJ cJ adW 60 fw, zAJ cJ adU 33 fu, zAJ cJ adG 60 fg, zAI cI adN 6 fn] ++ wB cI cJ cO adB adA lf bs a T)) rfl (fun H locs hP hD hS => ?_)
  refine lv_aload hx hb dL_samples_67 (lv_at hl 2 rfl) ?_
  refine lv_iload hx hb dL_samples_69 (lv_at hl 0 rfl) ?_
  refine lv_aload_n hx hb dL_samples_71 rfl (lv_at hl 6 rfl) ?_
  refine lv_iload hx hb dL_samples_72 (lv_at hl 0 rfl) ?_
  refine s_measure (k := 0)  K (by omega)  ⟨Nat.le_of_ble_eq_true rfl, Nat.le_of_ble_eq_true rfl⟩ hcs (Nat.le_of_ble_eq_true rfl) hP hD hS hA hl.1 dL_samples_74 (fun H locs hP hD hS => ?_)
  refine hh_setl (y := (yl_pme (T 0))) (rfl) ?_
  refine lr_ls hx hb hK hP hD hS 3 1 (e0 := 0) rfl rfl (by omega) (by decide) dL_samples_77 (w1 := ([zAI cI t6 3 (upd (fun _ => 0) (0) (yl_lmo (T 0))), zAI cI t7 3 (upd (fun _ => 0) (0) (yl_khe (T 0))), zAI cI t8 3 (upd (fun _ => 0) (0) (yl_rpr (T 0))), zAJ cJ t9 3 (vp_updL (fun _ => 0) (0) (yl_pme (T 0))), zAJ cJ t10 3 (fun _ => 0), zAJ cJ adW 60 fw, zAJ cJ adU 33 fu, zAJ cJ adG 60 fg, zAI cI adN 6 fn] ++ wB cI cJ cO adB adA lf bs a T)) rfl (fun H locs hP hD hS => ?_)
  refine lv_aload hx hb dL_samples_78 (lv_at hl 1 rfl) ?_
  refine lv_iload hx hb dL_samples_80 (lv_at hl 0 rfl) ?_
  refine lv_aload_n hx hb dL_samples_82 rfl (lv_at hl 6 rfl) ?_
  refine lv_iload hx hb dL_samples_83 (lv_at hl 0 rfl) ?_
  refine s_setpoint (k := 0)  K (by omega)  ⟨Nat.le_of_ble_eq_true rfl, Nat.le_of_ble_eq_true rfl⟩ hcs (Nat.le_of_ble_eq_true rfl) hP hD hS hA hl.1 dL_samples_85 (fun H locs hP hD hS => ?_)
  refine hh_setl (y := (yl_ksp (T 0))) (rfl) ?_
  refine lr_ls hx hb hK hP hD hS 4 1 (e0 := 0) rfl rfl (by omega) (by decide) dL_samples_88 (w1 := ([zAI cI t6 3 (upd (fun _ => 0) (0) (yl_lmo (T 0))), zAI cI t7 3 (upd (fun _ => 0) (0) (yl_khe (T 0))), zAI cI t8 3 (upd (fun _ => 0) (0) (yl_rpr (T 0))), zAJ cJ t9 3 (vp_updL (fun _ => 0) (0) (yl_pme (T 0))), zAJ cJ t10 3 (vp_updL (fun _ => 0) (0) (yl_ksp (T 0))), zAJ cJ adW 60 fw, zAJ cJ adU 33 fu, zAJ cJ adG 60 fg, zAI cI adN 6 fn] ++ wB cI cJ cO adB adA lf bs a T)) rfl (fun H locs hP hD hS => ?_)
  refine lv_iinc (v := (1 : Int32)) (lv' := [(11, .int (1 : Int32)), (10, .ref t10), (9, .ref t9), (8, .ref t8), (7, .ref t7), (6, .ref t6), (0, .ref adB), (1, .ref adW), (2, .ref adU), (3, .ref adG), (4, .ref adN), (5, .int sa)]) hx hb dL_samples_89 hl (k := 0) rfl (by decide) (by decide) rfl (fun ls hl => ?_)
  refine lv_goto (tgt := 28) hx hb dL_samples_92 (by decide) ?_
  refine lv_iload hx hb dL_samples_28 (lv_at hl 0 rfl) ?_
  refine lv_iconst (v := 3) hx hb dL_samples_30 (by decide) ?_
  refine lv_icmp_ge (tgt := 95) hx hb dL_samples_31 (by decide) (fun h9 => absurd h9 (by decide)) (fun _ => ?_)
  refine lv_aload hx hb dL_samples_34 (lv_at hl 5 rfl) ?_
  refine lv_iload hx hb dL_samples_36 (lv_at hl 0 rfl) ?_
  refine lv_aload_n hx hb dL_samples_38 rfl (lv_at hl 6 rfl) ?_
  refine lv_iload hx hb dL_samples_39 (lv_at hl 0 rfl) ?_
  refine s_mode (k := 1)  K (by omega)  ⟨Nat.le_of_ble_eq_true rfl, Nat.le_of_ble_eq_true rfl⟩ hcs (Nat.le_of_ble_eq_true rfl) hP hD hS hA hl.1 dL_samples_41 (fun H locs hP hD hS => ?_)
  refine hh_seti (y := (yl_lmo (T 1))) (rfl) ?_
  refine lr_is hx hb hK hP hD hS 0 0 (e0 := 1) rfl rfl (by omega) (by decide) dL_samples_44 (w1 := ([zAI cI t6 3 (upd (upd (fun _ => 0) (0) (yl_lmo (T 0))) (1) (yl_lmo (T 1))), zAI cI t7 3 (upd (fun _ => 0) (0) (yl_khe (T 0))), zAI cI t8 3 (upd (fun _ => 0) (0) (yl_rpr (T 0))), zAJ cJ t9 3 (vp_updL (fun _ => 0) (0) (yl_pme (T 0))), zAJ cJ t10 3 (vp_updL (fun _ => 0) (0) (yl_ksp (T 0))), zAJ cJ adW 60 fw, zAJ cJ adU 33 fu, zAJ cJ adG 60 fg, zAI cI adN 6 fn] ++ wB cI cJ cO adB adA lf bs a T)) rfl (fun H locs hP hD hS => ?_)
  refine lv_aload hx hb dL_samples_45 (lv_at hl 4 rfl) ?_
  refine lv_iload hx hb dL_samples_47 (lv_at hl 0 rfl) ?_
  refine lv_aload_n hx hb dL_samples_49 rfl (lv_at hl 6 rfl) ?_
  refine lv_iload hx hb dL_samples_50 (lv_at hl 0 rfl) ?_
  refine s_held (k := 1)  K (by omega)  ⟨Nat.le_of_ble_eq_true rfl, Nat.le_of_ble_eq_true rfl⟩ hcs (Nat.le_of_ble_eq_true rfl) hP hD hS hA hl.1 dL_samples_52 (fun H locs hP hD hS => ?_)
  refine hh_seti (y := (yl_khe (T 1))) (rfl) ?_
  refine lr_is hx hb hK hP hD hS 1 0 (e0 := 1) rfl rfl (by omega) (by decide) dL_samples_55 (w1 := ([zAI cI t6 3 (upd (upd (fun _ => 0) (0) (yl_lmo (T 0))) (1) (yl_lmo (T 1))), zAI cI t7 3 (upd (upd (fun _ => 0) (0) (yl_khe (T 0))) (1) (yl_khe (T 1))), zAI cI t8 3 (upd (fun _ => 0) (0) (yl_rpr (T 0))), zAJ cJ t9 3 (vp_updL (fun _ => 0) (0) (yl_pme (T 0))), zAJ cJ t10 3 (vp_updL (fun _ => 0) (0) (yl_ksp (T 0))), zAJ cJ adW 60 fw, zAJ cJ adU 33 fu, zAJ cJ adG 60 fg, zAI cI adN 6 fn] ++ wB cI cJ cO adB adA lf bs a T)) rfl (fun H locs hP hD hS => ?_)
  refine lv_aload hx hb dL_samples_56 (lv_at hl 3 rfl) ?_
  refine lv_iload hx hb dL_samples_58 (lv_at hl 0 rfl) ?_
  refine lv_aload_n hx hb dL_samples_60 rfl (lv_at hl 6 rfl) ?_
  refine lv_iload hx hb dL_samples_61 (lv_at hl 0 rfl) ?_
  refine s_experiment (k := 1)  K (by omega)  ⟨Nat.le_of_ble_eq_true rfl, Nat.le_of_ble_eq_true rfl⟩ hcs (Nat.le_of_ble_eq_true rfl) hP hD hS hA hl.1 dL_samples_63 (fun H locs hP hD hS => ?_)
  refine hh_seti (y := (yl_rpr (T 1))) (rfl) ?_
  refine lr_is hx hb hK hP hD hS 2 0 (e0 := 1) rfl rfl (by omega) (by decide) dL_samples_66 (w1 := ([zAI cI t6 3 (upd (upd (fun _ => 0) (0) (yl_lmo (T 0))) (1) (yl_lmo (T 1))), zAI cI t7 3 (upd (upd (fun _ => 0) (0) (yl_khe (T 0))) (1) (yl_khe (T 1))), zAI cI t8 3 (upd (upd (fun _ => 0) (0) (yl_rpr (T 0))) (1) (yl_rpr (T 1))), zAJ cJ t9 3 (vp_updL (fun _ => 0) (0) (yl_pme (T 0))), zAJ cJ t10 3 (vp_updL (fun _ => 0) (0) (yl_ksp (T 0))), zAJ cJ adW 60 fw, zAJ cJ adU 33 fu, zAJ cJ adG 60 fg, zAI cI adN 6 fn] ++ wB cI cJ cO adB adA lf bs a T)) rfl (fun H locs hP hD hS => ?_)
  refine lv_aload hx hb dL_samples_67 (lv_at hl 2 rfl) ?_
  refine lv_iload hx hb dL_samples_69 (lv_at hl 0 rfl) ?_
  refine lv_aload_n hx hb dL_samples_71 rfl (lv_at hl 6 rfl) ?_
  refine lv_iload hx hb dL_samples_72 (lv_at hl 0 rfl) ?_
  refine s_measure (k := 1)  K (by omega)  ⟨Nat.le_of_ble_eq_true rfl, Nat.le_of_ble_eq_true rfl⟩ hcs (Nat.le_of_ble_eq_true rfl) hP hD hS hA hl.1 dL_samples_74 (fun H locs hP hD hS => ?_)
  refine hh_setl (y := (yl_pme (T 1))) (rfl) ?_
  refine lr_ls hx hb hK hP hD hS 3 1 (e0 := 1) rfl rfl (by omega) (by decide) dL_samples_77 (w1 := ([zAI cI t6 3 (upd (upd (fun _ => 0) (0) (yl_lmo (T 0))) (1) (yl_lmo (T 1))), zAI cI t7 3 (upd (upd (fun _ => 0) (0) (yl_khe (T 0))) (1) (yl_khe (T 1))), zAI cI t8 3 (upd (upd (fun _ => 0) (0) (yl_rpr (T 0))) (1) (yl_rpr (T 1))), zAJ cJ t9 3 (vp_updL (vp_updL (fun _ => 0) (0) (yl_pme (T 0))) (1) (yl_pme (T 1))), zAJ cJ t10 3 (vp_updL (fun _ => 0) (0) (yl_ksp (T 0))), zAJ cJ adW 60 fw, zAJ cJ adU 33 fu, zAJ cJ adG 60 fg, zAI cI adN 6 fn] ++ wB cI cJ cO adB adA lf bs a T)) rfl (fun H locs hP hD hS => ?_)
  refine lv_aload hx hb dL_samples_78 (lv_at hl 1 rfl) ?_
  refine lv_iload hx hb dL_samples_80 (lv_at hl 0 rfl) ?_
  refine lv_aload_n hx hb dL_samples_82 rfl (lv_at hl 6 rfl) ?_
  refine lv_iload hx hb dL_samples_83 (lv_at hl 0 rfl) ?_
  refine s_setpoint (k := 1)  K (by omega)  ⟨Nat.le_of_ble_eq_true rfl, Nat.le_of_ble_eq_true rfl⟩ hcs (Nat.le_of_ble_eq_true rfl) hP hD hS hA hl.1 dL_samples_85 (fun H locs hP hD hS => ?_)
  refine hh_setl (y := (yl_ksp (T 1))) (rfl) ?_
  refine lr_ls hx hb hK hP hD hS 4 1 (e0 := 1) rfl rfl (by omega) (by decide) dL_samples_88 (w1 := ([zAI cI t6 3 (upd (upd (fun _ => 0) (0) (yl_lmo (T 0))) (1) (yl_lmo (T 1))), zAI cI t7 3 (upd (upd (fun _ => 0) (0) (yl_khe (T 0))) (1) (yl_khe (T 1))), zAI cI t8 3 (upd (upd (fun _ => 0) (0) (yl_rpr (T 0))) (1) (yl_rpr (T 1))), zAJ cJ t9 3 (vp_updL (vp_updL (fun _ => 0) (0) (yl_pme (T 0))) (1) (yl_pme (T 1))), zAJ cJ t10 3 (vp_updL (vp_updL (fun _ => 0) (0) (yl_ksp (T 0))) (1) (yl_ksp (T 1))), zAJ cJ adW 60 fw, zAJ cJ adU 33 fu, zAJ cJ adG 60 fg, zAI cI adN 6 fn] ++ wB cI cJ cO adB adA lf bs a T)) rfl (fun H locs hP hD hS => ?_)
  refine lv_iinc (v := (2 : Int32)) (lv' := [(11, .int (2 : Int32)), (10, .ref t10), (9, .ref t9), (8, .ref t8), (7, .ref t7), (6, .ref t6), (0, .ref adB), (1, .ref adW), (2, .ref adU), (3, .ref adG), (4, .ref adN), (5, .int sa)]) hx hb dL_samples_89 hl (k := 0) rfl (by decide) (by decide) rfl (fun ls hl => ?_)
  refine lv_goto (tgt := 28) hx hb dL_samples_92 (by decide) ?_
  refine lv_iload hx hb dL_samples_28 (lv_at hl 0 rfl) ?_
  refine lv_iconst (v := 3) hx hb dL_samples_30 (by decide) ?_
  refine lv_icmp_ge (tgt := 95) hx hb dL_samples_31 (by decide) (fun h9 => absurd h9 (by decide)) (fun _ => ?_)
  refine lv_aload hx hb dL_samples_34 (lv_at hl 5 rfl) ?_
  refine lv_iload hx hb dL_samples_36 (lv_at hl 0 rfl) ?_
  refine lv_aload_n hx hb dL_samples_38 rfl (lv_at hl 6 rfl) ?_
  refine lv_iload hx hb dL_samples_39 (lv_at hl 0 rfl) ?_
  refine s_mode (k := 2)  K (by omega)  ⟨Nat.le_of_ble_eq_true rfl, Nat.le_of_ble_eq_true rfl⟩ hcs (Nat.le_of_ble_eq_true rfl) hP hD hS hA hl.1 dL_samples_41 (fun H locs hP hD hS => ?_)
  refine hh_seti (y := (yl_lmo (T 2))) (rfl) ?_
  refine lr_is hx hb hK hP hD hS 0 0 (e0 := 2) rfl rfl (by omega) (by decide) dL_samples_44 (w1 := ([zAI cI t6 3 (upd (upd (upd (fun _ => 0) (0) (yl_lmo (T 0))) (1) (yl_lmo (T 1))) (2) (yl_lmo (T 2))), zAI cI t7 3 (upd (upd (fun _ => 0) (0) (yl_khe (T 0))) (1) (yl_khe (T 1))), zAI cI t8 3 (upd (upd (fun _ => 0) (0) (yl_rpr (T 0))) (1) (yl_rpr (T 1))), zAJ cJ t9 3 (vp_updL (vp_updL (fun _ => 0) (0) (yl_pme (T 0))) (1) (yl_pme (T 1))), zAJ cJ t10 3 (vp_updL (vp_updL (fun _ => 0) (0) (yl_ksp (T 0))) (1) (yl_ksp (T 1))), zAJ cJ adW 60 fw, zAJ cJ adU 33 fu, zAJ cJ adG 60 fg, zAI cI adN 6 fn] ++ wB cI cJ cO adB adA lf bs a T)) rfl (fun H locs hP hD hS => ?_)
  refine lv_aload hx hb dL_samples_45 (lv_at hl 4 rfl) ?_
  refine lv_iload hx hb dL_samples_47 (lv_at hl 0 rfl) ?_
  refine lv_aload_n hx hb dL_samples_49 rfl (lv_at hl 6 rfl) ?_
  refine lv_iload hx hb dL_samples_50 (lv_at hl 0 rfl) ?_
  refine s_held (k := 2)  K (by omega)  ⟨Nat.le_of_ble_eq_true rfl, Nat.le_of_ble_eq_true rfl⟩ hcs (Nat.le_of_ble_eq_true rfl) hP hD hS hA hl.1 dL_samples_52 (fun H locs hP hD hS => ?_)
  refine hh_seti (y := (yl_khe (T 2))) (rfl) ?_
  refine lr_is hx hb hK hP hD hS 1 0 (e0 := 2) rfl rfl (by omega) (by decide) dL_samples_55 (w1 := ([zAI cI t6 3 (upd (upd (upd (fun _ => 0) (0) (yl_lmo (T 0))) (1) (yl_lmo (T 1))) (2) (yl_lmo (T 2))), zAI cI t7 3 (upd (upd (upd (fun _ => 0) (0) (yl_khe (T 0))) (1) (yl_khe (T 1))) (2) (yl_khe (T 2))), zAI cI t8 3 (upd (upd (fun _ => 0) (0) (yl_rpr (T 0))) (1) (yl_rpr (T 1))), zAJ cJ t9 3 (vp_updL (vp_updL (fun _ => 0) (0) (yl_pme (T 0))) (1) (yl_pme (T 1))), zAJ cJ t10 3 (vp_updL (vp_updL (fun _ => 0) (0) (yl_ksp (T 0))) (1) (yl_ksp (T 1))), zAJ cJ adW 60 fw, zAJ cJ adU 33 fu, zAJ cJ adG 60 fg, zAI cI adN 6 fn] ++ wB cI cJ cO adB adA lf bs a T)) rfl (fun H locs hP hD hS => ?_)
  refine lv_aload hx hb dL_samples_56 (lv_at hl 3 rfl) ?_
  refine lv_iload hx hb dL_samples_58 (lv_at hl 0 rfl) ?_
  refine lv_aload_n hx hb dL_samples_60 rfl (lv_at hl 6 rfl) ?_
  refine lv_iload hx hb dL_samples_61 (lv_at hl 0 rfl) ?_
  refine s_experiment (k := 2)  K (by omega)  ⟨Nat.le_of_ble_eq_true rfl, Nat.le_of_ble_eq_true rfl⟩ hcs (Nat.le_of_ble_eq_true rfl) hP hD hS hA hl.1 dL_samples_63 (fun H locs hP hD hS => ?_)
  refine hh_seti (y := (yl_rpr (T 2))) (rfl) ?_
  refine lr_is hx hb hK hP hD hS 2 0 (e0 := 2) rfl rfl (by omega) (by decide) dL_samples_66 (w1 := ([zAI cI t6 3 (upd (upd (upd (fun _ => 0) (0) (yl_lmo (T 0))) (1) (yl_lmo (T 1))) (2) (yl_lmo (T 2))), zAI cI t7 3 (upd (upd (upd (fun _ => 0) (0) (yl_khe (T 0))) (1) (yl_khe (T 1))) (2) (yl_khe (T 2))), zAI cI t8 3 (upd (upd (upd (fun _ => 0) (0) (yl_rpr (T 0))) (1) (yl_rpr (T 1))) (2) (yl_rpr (T 2))), zAJ cJ t9 3 (vp_updL (vp_updL (fun _ => 0) (0) (yl_pme (T 0))) (1) (yl_pme (T 1))), zAJ cJ t10 3 (vp_updL (vp_updL (fun _ => 0) (0) (yl_ksp (T 0))) (1) (yl_ksp (T 1))), zAJ cJ adW 60 fw, zAJ cJ adU 33 fu, zAJ cJ adG 60 fg, zAI cI adN 6 fn] ++ wB cI cJ cO adB adA lf bs a T)) rfl (fun H locs hP hD hS => ?_)
  refine lv_aload hx hb dL_samples_67 (lv_at hl 2 rfl) ?_
  refine lv_iload hx hb dL_samples_69 (lv_at hl 0 rfl) ?_
  refine lv_aload_n hx hb dL_samples_71 rfl (lv_at hl 6 rfl) ?_
  refine lv_iload hx hb dL_samples_72 (lv_at hl 0 rfl) ?_
  refine s_measure (k := 2)  K (by omega)  ⟨Nat.le_of_ble_eq_true rfl, Nat.le_of_ble_eq_true rfl⟩ hcs (Nat.le_of_ble_eq_true rfl) hP hD hS hA hl.1 dL_samples_74 (fun H locs hP hD hS => ?_)
  refine hh_setl (y := (yl_pme (T 2))) (rfl) ?_
  refine lr_ls hx hb hK hP hD hS 3 1 (e0 := 2) rfl rfl (by omega) (by decide) dL_samples_77 (w1 := ([zAI cI t6 3 (upd (upd (upd (fun _ => 0) (0) (yl_lmo (T 0))) (1) (yl_lmo (T 1))) (2) (yl_lmo (T 2))), zAI cI t7 3 (upd (upd (upd (fun _ => 0) (0) (yl_khe (T 0))) (1) (yl_khe (T 1))) (2) (yl_khe (T 2))), zAI cI t8 3 (upd (upd (upd (fun _ => 0) (0) (yl_rpr (T 0))) (1) (yl_rpr (T 1))) (2) (yl_rpr (T 2))), zAJ cJ t9 3 (vp_updL (vp_updL (vp_updL (fun _ => 0) (0) (yl_pme (T 0))) (1) (yl_pme (T 1))) (2) (yl_pme (T 2))), zAJ cJ t10 3 (vp_updL (vp_updL (fun _ => 0) (0) (yl_ksp (T 0))) (1) (yl_ksp (T 1))), zAJ cJ adW 60 fw, zAJ cJ adU 33 fu, zAJ cJ adG 60 fg, zAI cI adN 6 fn] ++ wB cI cJ cO adB adA lf bs a T)) rfl (fun H locs hP hD hS => ?_)
  refine lv_aload hx hb dL_samples_78 (lv_at hl 1 rfl) ?_
  refine lv_iload hx hb dL_samples_80 (lv_at hl 0 rfl) ?_
  refine lv_aload_n hx hb dL_samples_82 rfl (lv_at hl 6 rfl) ?_
  refine lv_iload hx hb dL_samples_83 (lv_at hl 0 rfl) ?_
  refine s_setpoint (k := 2)  K (by omega)  ⟨Nat.le_of_ble_eq_true rfl, Nat.le_of_ble_eq_true rfl⟩ hcs (Nat.le_of_ble_eq_true rfl) hP hD hS hA hl.1 dL_samples_85 (fun H locs hP hD hS => ?_)
  refine hh_setl (y := (yl_ksp (T 2))) (rfl) ?_
  refine lr_ls hx hb hK hP hD hS 4 1 (e0 := 2) rfl rfl (by omega) (by decide) dL_samples_88 (w1 := ([zAI cI t6 3 (upd (upd (upd (fun _ => 0) (0) (yl_lmo (T 0))) (1) (yl_lmo (T 1))) (2) (yl_lmo (T 2))), zAI cI t7 3 (upd (upd (upd (fun _ => 0) (0) (yl_khe (T 0))) (1) (yl_khe (T 1))) (2) (yl_khe (T 2))), zAI cI t8 3 (upd (upd (upd (fun _ => 0) (0) (yl_rpr (T 0))) (1) (yl_rpr (T 1))) (2) (yl_rpr (T 2))), zAJ cJ t9 3 (vp_updL (vp_updL (vp_updL (fun _ => 0) (0) (yl_pme (T 0))) (1) (yl_pme (T 1))) (2) (yl_pme (T 2))), zAJ cJ t10 3 (vp_updL (vp_updL (vp_updL (fun _ => 0) (0) (yl_ksp (T 0))) (1) (yl_ksp (T 1))) (2) (yl_ksp (T 2))), zAJ cJ adW 60 fw, zAJ cJ adU 33 fu, zAJ cJ adG 60 fg, zAI cI adN 6 fn] ++ wB cI cJ cO adB adA lf bs a T)) rfl (fun H locs hP hD hS => ?_)
  refine lv_iinc (v := (3 : Int32)) (lv' := [(11, .int (3 : Int32)), (10, .ref t10), (9, .ref t9), (8, .ref t8), (7, .ref t7), (6, .ref t6), (0, .ref adB), (1, .ref adW), (2, .ref adU), (3, .ref adG), (4, .ref adN), (5, .int sa)]) hx hb dL_samples_89 hl (k := 0) rfl (by decide) (by decide) rfl (fun ls hl => ?_)
  refine lv_goto (tgt := 28) hx hb dL_samples_92 (by decide) ?_
  refine lv_iload hx hb dL_samples_28 (lv_at hl 0 rfl) ?_
  refine lv_iconst (v := 3) hx hb dL_samples_30 (by decide) ?_
  refine lv_icmp_ge (tgt := 95) hx hb dL_samples_31 (by decide) (fun _ => ?_) (fun h9 => absurd h9 (by decide))
  refine lv_aload_n hx hb dL_samples_95 rfl (lv_at hl 6 rfl) ?_
  refine lv_iconst (v := 1) hx hb dL_samples_96 (by decide) ?_
  refine s_run K hI ⟨Nat.le_of_ble_eq_true rfl, Nat.le_of_ble_eq_true rfl⟩ hcs (Nat.le_of_ble_eq_true rfl) hP hD hS hA hl.1 dL_samples_97 (fun H locs hP hD hS => ?_)
  refine lv_iload hx hb dL_samples_100 (lv_at hl 11 rfl) ?_
  refine lv_iconst (v := 1) hx hb dL_samples_102 (by decide) ?_
  refine lv_iadd hx hb dL_samples_103 ?_
  refine lv_icmp_ne (tgt := 111) hx hb dL_samples_104 (by decide) (fun h9 => absurd ((by rw [hbs])) h9) (fun _ => ?_)
  refine lv_iconst (v := 1) hx hb dL_samples_107 (by decide) ?_
  refine lv_goto (tgt := 112) hx hb dL_samples_108 (by decide) ?_
  refine lv_istore (lv' := [(11, .int (1 : Int32)), (10, .ref t10), (9, .ref t9), (8, .ref t8), (7, .ref t7), (6, .ref t6), (0, .ref adB), (1, .ref adW), (2, .ref adU), (3, .ref adG), (4, .ref adN), (5, .int sa)]) hx hb dL_samples_112 hl (by decide) rfl (fun ls hl => ?_)
  refine lv_iconst (v := 0) hx hb dL_samples_114 (by decide) ?_
  refine hh_seti (y := nI 0) rfl ?_
  refine lv_istore (lv' := [(12, .int (nI 0)), (11, .int (1 : Int32)), (10, .ref t10), (9, .ref t9), (8, .ref t8), (7, .ref t7), (6, .ref t6), (0, .ref adB), (1, .ref adW), (2, .ref adU), (3, .ref adG), (4, .ref adN), (5, .int sa)]) hx hb dL_samples_115 hl (by decide) rfl (fun ls hl => ?_)
  have qfm : ∀ j : Nat, j < 3 → (upd (upd (upd (fun _ => 0) (0) (yl_lmo (T 0))) (1) (yl_lmo (T 1))) (2) (yl_lmo (T 2))) j = yl_lmo (T j) := by
    intro j hj
    rcases (show j = 0 ∨ j = 1 ∨ j = 2 by omega) with rfl | rfl | rfl <;> rfl
  have qfh : ∀ j : Nat, j < 3 → (upd (upd (upd (fun _ => 0) (0) (yl_khe (T 0))) (1) (yl_khe (T 1))) (2) (yl_khe (T 2))) j = yl_khe (T j) := by
    intro j hj
    rcases (show j = 0 ∨ j = 1 ∨ j = 2 by omega) with rfl | rfl | rfl <;> rfl
  have qfs : ∀ j : Nat, j < 3 → (upd (upd (upd (fun _ => 0) (0) (yl_rpr (T 0))) (1) (yl_rpr (T 1))) (2) (yl_rpr (T 2))) j = yl_rpr (T j) := by
    intro j hj
    rcases (show j = 0 ∨ j = 1 ∨ j = 2 by omega) with rfl | rfl | rfl <;> rfl
  have qfy : ∀ j : Nat, j < 3 → (vp_updL (vp_updL (vp_updL (fun _ => 0) (0) (yl_pme (T 0))) (1) (yl_pme (T 1))) (2) (yl_pme (T 2))) j = yl_pme (T j) := by
    intro j hj
    rcases (show j = 0 ∨ j = 1 ∨ j = 2 by omega) with rfl | rfl | rfl <;> rfl
  have qfp : ∀ j : Nat, j < 3 → (vp_updL (vp_updL (vp_updL (fun _ => 0) (0) (yl_ksp (T 0))) (1) (yl_ksp (T 1))) (2) (yl_ksp (T 2))) j = yl_ksp (T j) := by
    intro j hj
    rcases (show j = 0 ∨ j = 1 ∨ j = 2 by omega) with rfl | rfl | rfl <;> rfl
  have hr0 := hRP 0 (by decide)
  have hr1 := hRP 1 (by decide)
  have hr2 := hRP 2 (by decide)
  refine sm_blk (k := 0) (U := stepF T) (fw := fw) (fu := fu) (fn := fn) K (by decide) qfm qfh qfs qfy qfp hr0 (sF_0 T) (RP_ksp hr0) (fun q => absurd q (by decide)) (fun _ => ⟨rfl, rfl, rfl, (RP_lma hr1).1, (RP_lma hr1).2⟩) (fun q => absurd (by decide) q) ⟨Nat.le_of_ble_eq_true rfl, Nat.le_of_ble_eq_true rfl⟩ hcs hP hD hS hA (lv_sub hl [0, 1, 7, 8, 9, 10, 11, 12, 6, 5, 4, 3, 2] rfl) (fun fw1 fu1 fn1 H locs ls hu0 h15_0 hwf huf hnf hP hD hS hl => ?_)
  have hr1 := RP_frame hr1 (fun i hi => hwf _ (by omega)) (fun i hi => huf _ (by omega)) (fun _ _ => rfl) (hnf _ (by decide)) (hnf _ (by decide))
  have hr2 := RP_frame hr2 (fun i hi => hwf _ (by omega)) (fun i hi => huf _ (by omega)) (fun _ _ => rfl) (hnf _ (by decide)) (hnf _ (by decide))
  refine sm_blk (k := 1) (U := stepF T) (fw := fw1) (fu := fu1) (fn := fn1) K (by decide) qfm qfh qfs qfy qfp hr1 (sF_1 T) (RP_lou hu0) (fun _ => rfl) (fun _ => ⟨rfl, rfl, rfl, (RP_lma hr2).1, (RP_lma hr2).2⟩) (fun q => absurd (by decide) q) ⟨Nat.le_of_ble_eq_true rfl, Nat.le_of_ble_eq_true rfl⟩ hcs hP hD hS hA hl (fun fw2 fu2 fn2 H locs ls hu1 h15_1 hwf huf hnf hP hD hS hl => ?_)
  have hu0 := RP_frame hu0 (fun i hi => hwf _ (by omega)) (fun i hi => huf _ (by omega)) (fun _ _ => rfl) (hnf _ (by decide)) (hnf _ (by decide))
  have h15_0 := (hwf (20 * 0 + 15) (by omega)).trans h15_0
  have hr2 := RP_frame hr2 (fun i hi => hwf _ (by omega)) (fun i hi => huf _ (by omega)) (fun _ _ => rfl) (hnf _ (by decide)) (hnf _ (by decide))
  refine sm_blk (k := 2) (U := stepF T) (fw := fw2) (fu := fu2) (fn := fn2) K (by decide) qfm qfh qfs qfy qfp hr2 (sF_2 T) (RP_lou hu1) (fun _ => rfl) (fun q => absurd q (by decide)) (fun _ => rfl) ⟨Nat.le_of_ble_eq_true rfl, Nat.le_of_ble_eq_true rfl⟩ hcs hP hD hS hA hl (fun fw3 fu3 fn3 H locs ls hu2 h15_2 hwf huf hnf hP hD hS hl => ?_)
  have hu0 := RP_frame hu0 (fun i hi => hwf _ (by omega)) (fun i hi => huf _ (by omega)) (fun _ _ => rfl) (hnf _ (by decide)) (hnf _ (by decide))
  have h15_0 := (hwf (20 * 0 + 15) (by omega)).trans h15_0
  have hu1 := RP_frame hu1 (fun i hi => hwf _ (by omega)) (fun i hi => huf _ (by omega)) (fun _ _ => rfl) (hnf _ (by decide)) (hnf _ (by decide))
  have h15_1 := (hwf (20 * 1 + 15) (by omega)).trans h15_1
  refine lv_iload hx hb dL_samples_117 (lv_at hl 0 rfl) ?_
  refine lv_iconst (v := 3) hx hb dL_samples_119 (by decide) ?_
  refine lv_icmp_ge (tgt := 765) hx hb dL_samples_120 (by decide) (fun _ => ?_) (fun h9 => absurd h9 (by decide))
  refine lv_iload hx hb dL_samples_765 (lv_at hl 1 rfl) ?_
  have hP : va_P (dC, dI) vwCl ([zAJ cJ adW 60 fw3, zAJ cJ adU 33 fu3, zAJ cJ adG 60 fg, zAI cI adN 6 fn3] ++ wB cI cJ cO adB adA lf (bs + 1) a (stepF T)) H := ap_R (wl := [zAI cI t6 3 (upd (upd (upd (fun _ => 0) (0) (yl_lmo (T 0))) (1) (yl_lmo (T 1))) (2) (yl_lmo (T 2))), zAI cI t7 3 (upd (upd (upd (fun _ => 0) (0) (yl_khe (T 0))) (1) (yl_khe (T 1))) (2) (yl_khe (T 2))), zAI cI t8 3 (upd (upd (upd (fun _ => 0) (0) (yl_rpr (T 0))) (1) (yl_rpr (T 1))) (2) (yl_rpr (T 2))), zAJ cJ t9 3 (vp_updL (vp_updL (vp_updL (fun _ => 0) (0) (yl_pme (T 0))) (1) (yl_pme (T 1))) (2) (yl_pme (T 2))), zAJ cJ t10 3 (vp_updL (vp_updL (vp_updL (fun _ => 0) (0) (yl_ksp (T 0))) (1) (yl_ksp (T 1))) (2) (yl_ksp (T 2)))]) hP
  have hD : va_D A ([zAJ cJ adW 60 fw3, zAJ cJ adU 33 fu3, zAJ cJ adG 60 fg, zAI cI adN 6 fn3] ++ wB cI cJ cO adB adA lf (bs + 1) a (stepF T)) := ap_DR (wl := [zAI cI t6 3 (upd (upd (upd (fun _ => 0) (0) (yl_lmo (T 0))) (1) (yl_lmo (T 1))) (2) (yl_lmo (T 2))), zAI cI t7 3 (upd (upd (upd (fun _ => 0) (0) (yl_khe (T 0))) (1) (yl_khe (T 1))) (2) (yl_khe (T 2))), zAI cI t8 3 (upd (upd (upd (fun _ => 0) (0) (yl_rpr (T 0))) (1) (yl_rpr (T 1))) (2) (yl_rpr (T 2))), zAJ cJ t9 3 (vp_updL (vp_updL (vp_updL (fun _ => 0) (0) (yl_pme (T 0))) (1) (yl_pme (T 1))) (2) (yl_pme (T 2))), zAJ cJ t10 3 (vp_updL (vp_updL (vp_updL (fun _ => 0) (0) (yl_ksp (T 0))) (1) (yl_ksp (T 1))) (2) (yl_ksp (T 2)))]) hD
  exact hh_retS (w := fun (u : (Nat → Int64) × (Nat → Int64) × (Nat → Int32)) => ([zAJ cJ adW 60 u.1, zAJ cJ adU 33 u.2.1, zAJ cJ adG 60 fg, zAI cI adN 6 u.2.2] ++ wB cI cJ cO adB adA lf (bs + 1) a (stepF T))) ((fw3, fu3, fn3)) hQ (⟨rfl, (by intro j hj; rcases (show j = 0 ∨ j = 1 ∨ j = 2 by omega) with rfl | rfl | rfl; exact hu0; exact hu1; exact hu2), (by intro j hj; rcases (show j = 0 ∨ j = 1 ∨ j = 2 by omega) with rfl | rfl | rfl; exact h15_0; exact h15_1; exact h15_2)⟩) (rfl) hx hb hr hlocks hP hK hD hS dL_samples_767
