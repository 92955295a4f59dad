set_option maxHeartbeats 4000000 in
set_option maxRecDepth 100000 in
theorem c_L_step_6 (l : Launch) (dC : Nat → ClassId) (dI : Nat → Nat → Nat) (cI cJ cZ cO : ClassId) (adB adA adW adU adG adN : Nat) (lf : Nat → Option Nat) (a : Nat → AT) (bs : Int32) (T : Nat → LT) (fw fu fg : Nat → Int64) (fn : Nat → Int32) (k X Y : Nat) (sz : Nat) (hlf : ∀ j : Nat, j < 3 → lf (nI j).toNatClampNeg = some (ya_adL (a j))) (hk : k < 3) (hXk : X % 3 = k) (hX : X < 1073741824) (hY : Y < 1073741824) (hR : RP k (T k) fw fu fg fn) (h15 : fw (20 * k + 15) = 0) : Met l yL_step (Cond.code yL_step cL_step 18 (some .boolean) :: wAll) ({ frames := 5, cells := 0, slots := 0, locals := 122 }) (va_Pc [.ref adB, .int (6 : Int32), .int (nI X), .int (nI Y), .ref adW, .ref adG, .ref adN] (gP (dC, dI) ([zAJ cJ adW 60 fw, zAJ cJ adU 33 fu, zAJ cJ adG 60 fg, zAI cI adN 6 fn] ++ wB cI cJ cO adB adA lf bs a T) (tyG cI cJ cZ cO) sz gN)) (va_Qi (fun r (u : (Nat → Int64) × (Nat → Int64) × (Nat → Int32) × (Nat → LT)) => r = 1 ∧ SPost k T fw fu fg fn u.1 u.2.1 u.2.2.1 u.2.2.2) (fun u t => gB (dC, dI) (va_A ([zAJ cJ adW 60 fw, zAJ cJ adU 33 fu, zAJ cJ adG 60 fg, zAI cI adN 6 fn] ++ wB cI cJ cO adB adA lf bs a T) sz) ([zAJ cJ adW 60 u.1, zAJ cJ adU 33 fu, zAJ cJ adG 60 u.2.1, zAI cI adN 6 u.2.2.1] ++ wB cI cJ cO adB adA lf bs a u.2.2.2) (tyG cI cJ cZ cO) t) (va_A ([zAJ cJ adW 60 fw, zAJ cJ adU 33 fu, zAJ cJ adG 60 fg, zAI cI adN 6 fn] ++ wB cI cJ cO adB adA lf bs a T) sz)) 0 0 (va_A ([zAJ cJ adW 60 fw, zAJ cJ adU 33 fu, zAJ cJ adG 60 fg, zAI cI adN 6 fn] ++ wB cI cJ cO adB adA lf bs a T) sz) := by
  refine Met.ofW (cc := cL_step) (maxL := 18) (ret := (some .boolean)) (by decide) rfl ?_
  intro p e s m args below meth c s₁ B hml hv
  obtain ⟨rfl, hsz, hP, hK, hD0, hG⟩ := hv
  have hx := B.exec
  have hb := B.bytes
  have hr := B.returns
  have hts := ht_of B.pre
  have hown : s.vm.findClass RL = some m.cls := findClass_of_methodNamed B.named
  have hlocks := B.notSynchronized
  subst hsz
  have hD := hD0.self (sz := s.heap.size)
  generalize hAe : va_A ([zAJ cJ adW 60 fw, zAJ cJ adU 33 fu, zAJ cJ adG 60 fg, zAI cI adN 6 fn] ++ wB cI cJ cO adB adA lf bs a T) s.heap.size = A at hD ⊢
  have hA : ∀ q : Nat, s.heap.size ≤ q → A q := fun q h => by rw [← hAe]; exact Or.inr h
  have hS : va_S A s.heap s.heap [] := va_S.rf
  have hl := lv_entry ([.ref adB, .int (6 : Int32), .int (nI X), .int (nI Y), .ref adW, .ref adG, .ref adN]) (n := 18) (Nat.le_of_ble_eq_true rfl)
  rw [lg_entry_eq]
  generalize (lg_sl ([.ref adB, .int (6 : Int32), .int (nI X), .int (nI Y), .ref adW, .ref adG, .ref adN]) ++ List.replicate (18 - (lg_sl ([.ref adB, .int (6 : Int32), .int (nI X), .int (nI Y), .ref adW, .ref adG, .ref adN])).length) Slot.unset).toArray = ls at hl ⊢
  have hl : lv_has ls 18 [(0, .ref adB), (1, .int (6 : Int32)), (2, .int (nI X)), (3, .int (nI Y)), (4, .ref adW), (5, .ref adG), (6, .ref adN)] := hl
  refine hh_name (fun Q hQ => ?_)
  have K := fx_mk hx hb hml hown hts hG hK hlf
  have hcs : (0 : Nat) ≤ 0 ∧ (0 : Nat) ≤ 0 := ⟨Nat.zero_le _, Nat.zero_le _⟩
  refine lv_iload_n hx hb dL_step_0 rfl (lv_at hl 2 rfl) ?_
  refine lv_iconst (v := 3) hx hb dL_step_1 (by decide) ?_
  refine lv_irem hx hb dL_step_2 (by decide) ?_
  refine hh_seti (y := (nI ((X % 3)))) (lwMod (a := X) (b := 3) (by omega) (by decide) (by decide) rfl) ?_
  refine hh_seti (y := nI k) (by rw [hXk]) ?_
  refine lv_istore (lv' := [(7, .int (nI k)), (0, .ref adB), (1, .int (6 : Int32)), (2, .int (nI X)), (3, .int (nI Y)), (4, .ref adW), (5, .ref adG), (6, .ref adN)]) hx hb dL_step_3 hl (by decide) rfl (fun ls hl => ?_)
  refine lv_bipush (v := 20) hx hb dL_step_5 (by decide) ?_
  refine lv_iload hx hb dL_step_7 (lv_at hl 0 rfl) ?_
  refine lv_imul hx hb dL_step_9 ?_
  refine hh_seti (y := (nI (20 * k))) (lwMul (a := 20) (b := k) (by omega)) ?_
  refine lv_istore (lv' := [(8, .int (nI (20 * k))), (7, .int (nI k)), (0, .ref adB), (1, .int (6 : Int32)), (2, .int (nI X)), (3, .int (nI Y)), (4, .ref adW), (5, .ref adG), (6, .ref adN)]) hx hb dL_step_10 hl (by decide) rfl (fun ls hl => ?_)
  refine lv_iload_n hx hb dL_step_12 rfl (lv_at hl 3 rfl) ?_
  refine lv_tableIn (off := 618) (tgt := 631) hx hb dL_step_13 (by decide) (by decide) rfl (by decide) ?_
  refine lv_aload_n hx hb dL_step_631 rfl (lv_at hl 2 rfl) ?_
  refine lv_iload hx hb dL_step_632 (lv_at hl 1 rfl) ?_
  refine s_setpoint (k := k)  K hk  ⟨Nat.le_of_ble_eq_true rfl, Nat.le_of_ble_eq_true rfl⟩ hcs (Nat.le_of_ble_eq_true rfl) hP hD hS hA hl.1 dL_step_634 (fun H locs hP hD hS => ?_)
  refine hh_setl (y := (yl_ksp (T k))) (rfl) ?_
  refine lv_lstore (lv' := [(12, .long (yl_ksp (T k))), (8, .int (nI (20 * k))), (7, .int (nI k)), (0, .ref adB), (1, .int (6 : Int32)), (2, .int (nI X)), (3, .int (nI Y)), (4, .ref adW), (5, .ref adG), (6, .ref adN)]) hx hb dL_step_637 hl (by decide) rfl (fun ls hl => ?_)
  refine lv_aload hx hb dL_step_639 (lv_at hl 7 rfl) ?_
  refine lv_iload hx hb dL_step_641 (lv_at hl 1 rfl) ?_
  refine lv_bipush (v := 15) hx hb dL_step_643 (by decide) ?_
  refine lv_iadd hx hb dL_step_645 ?_
  refine hh_seti (y := (nI (20 * k + 15))) (lwAdd (a := 20 * k) (b := 15) (by omega)) ?_
  refine lv_aload_n hx hb dL_step_646 rfl (lv_at hl 3 rfl) ?_
  refine lv_iload hx hb dL_step_647 (lv_at hl 2 rfl) ?_
  refine s_mode (k := k)  K hk  ⟨Nat.le_of_ble_eq_true rfl, Nat.le_of_ble_eq_true rfl⟩ hcs (Nat.le_of_ble_eq_true rfl) hP hD hS hA hl.1 dL_step_649 (fun H locs hP hD hS => ?_)
  refine hh_seti (y := (yl_lmo (T k))) (rfl) ?_
  refine lv_iconst (v := 2) hx hb dL_step_652 (by decide) ?_
  refine lv_icmp_ne (tgt := 667) hx hb dL_step_653 (by decide) (fun hm2 => ?_) (fun hm2 => ?_)
  · skip
    refine lv_lconst (v := 0) hx hb dL_step_667 (by decide) ?_
    refine lr_ls hx hb hK hP hD hS 0 1 (e0 := 20 * k + 15) rfl rfl (by omega) (by decide) dL_step_668 (w1 := ([zAJ cJ adW 60 (vp_updL fw (20 * k + 15) (0 : Int64)), zAJ cJ adU 33 fu, zAJ cJ adG 60 fg, zAI cI adN 6 fn] ++ wB cI cJ cO adB adA lf bs a T)) rfl (fun H locs hP hD hS => ?_)
    refine lv_aload_n hx hb dL_step_669 rfl (lv_at hl 3 rfl) ?_
    refine lv_iload hx hb dL_step_670 (lv_at hl 2 rfl) ?_
    refine s_mode (k := k)  K hk  ⟨Nat.le_of_ble_eq_true rfl, Nat.le_of_ble_eq_true rfl⟩ hcs (Nat.le_of_ble_eq_true rfl) hP hD hS hA hl.1 dL_step_672 (fun H locs hP hD hS => ?_)
    refine hh_seti (y := (yl_lmo (T k))) (rfl) ?_
    refine lv_iconst (v := 2) hx hb dL_step_675 (by decide) ?_
    refine lv_icmp_eq (tgt := 701) hx hb dL_step_676 (by decide) (fun h9 => absurd h9 (hm2)) (fun _ => ?_)
    refine lv_aload_n hx hb dL_step_679 rfl (lv_at hl 3 rfl) ?_
    refine lv_iload hx hb dL_step_680 (lv_at hl 2 rfl) ?_
    refine lv_iload_n hx hb dL_step_682 rfl (lv_at hl 6 rfl) ?_
    refine lv_sipush (v := 30001) hx hb dL_step_683 (by decide) ?_
    refine lv_irem hx hb dL_step_686 (by decide) ?_
    refine hh_seti (y := (nI ((Y % 30001)))) (lwMod (a := Y) (b := 30001) (by omega) (by decide) (by decide) rfl) ?_
    refine lv_sipush (v := 10000) hx hb dL_step_687 (by decide) ?_
    refine lv_isub hx hb dL_step_690 ?_
    refine s_setSetpoint (k := k) (spv := ((nI ((Y % 30001))) - (10000 : Int32))) K hk (bd_lo (M := -1000000) (bd_s (n := (Y % 30001)) (c := 10000) (C := 10000) rfl (by omega) (by omega)) (by decide) (by omega)) (bd_hi (M := 1000000) (bd_s (n := (Y % 30001)) (c := 10000) (C := 10000) rfl (by omega) (by omega)) (by decide) (by omega)) (ss_q hm2) ⟨Nat.le_of_ble_eq_true rfl, Nat.le_of_ble_eq_true rfl⟩ hcs (Nat.le_of_ble_eq_true rfl) hP hD hS hA hl.1 dL_step_691 (fun H locs hP hD hS => ?_)
    refine lv_i2l hx hb dL_step_694 rfl ?_
    refine lv_lload hx hb dL_step_695 (lv_at hl 0 rfl) ?_
    refine hh_cne (tgt := 705) hx hb dL_step_697 dL_step_698 (by decide) (fun h9 => absurd (ss_r hR) h9) (fun _ => ?_)
    refine lv_iconst (v := 1) hx hb dL_step_701 (by decide) ?_
    refine lv_goto (tgt := 706) hx hb dL_step_702 (by decide) ?_
    exact hh_retS (w := fun (u : (Nat → Int64) × (Nat → Int64) × (Nat → Int32) × (Nat → LT)) => ([zAJ cJ adW 60 u.1, zAJ cJ adU 33 fu, zAJ cJ adG 60 u.2.1, zAI cI adN 6 u.2.2.1] ++ wB cI cJ cO adB adA lf bs a u.2.2.2)) (((vp_updL fw (20 * k + 15) (0 : Int64)), fg, fn, (upT T k (lu_setSetpoint (T k) ((nI ((Y % 30001))) - (10000 : Int32)))))) hQ (⟨rfl, SP_mk (op_setSetpoint hR (by rw [(bd_s (n := (Y % 30001)) (c := 10000) (C := 10000) rfl (by omega) (by omega))]; omega)) (by intro i hi; (try dsimp only); repeat rw [ul_ne _ _ (by omega)]) (fun _ _ => rfl) (fun _ _ _ => rfl)⟩) (rfl) hx hb hr hlocks hP hK hD hS dL_step_706
  · skip
    refine lv_aload hx hb dL_step_656 (lv_at hl 7 rfl) ?_
    refine lv_iload hx hb dL_step_658 (lv_at hl 1 rfl) ?_
    refine lv_bipush (v := 15) hx hb dL_step_660 (by decide) ?_
    refine lv_iadd hx hb dL_step_662 ?_
    refine hh_seti (y := (nI (20 * k + 15))) (lwAdd (a := 20 * k) (b := 15) (by omega)) ?_
    refine lr_ll hx hb hK hP 0 1 (e0 := 20 * k + 15) rfl rfl (by omega) (by decide) dL_step_663 ?_
    refine lv_goto (tgt := 668) hx hb dL_step_664 (by decide) ?_
    refine hh_setl (y := (0 : Int64)) (h15.symm) ?_
    refine lr_ls hx hb hK hP hD hS 0 1 (e0 := 20 * k + 15) rfl rfl (by omega) (by decide) dL_step_668 (w1 := ([zAJ cJ adW 60 (vp_updL fw (20 * k + 15) (0 : Int64)), zAJ cJ adU 33 fu, zAJ cJ adG 60 fg, zAI cI adN 6 fn] ++ wB cI cJ cO adB adA lf bs a T)) rfl (fun H locs hP hD hS => ?_)
    refine lv_aload_n hx hb dL_step_669 rfl (lv_at hl 3 rfl) ?_
    refine lv_iload hx hb dL_step_670 (lv_at hl 2 rfl) ?_
    refine s_mode (k := k)  K hk  ⟨Nat.le_of_ble_eq_true rfl, Nat.le_of_ble_eq_true rfl⟩ hcs (Nat.le_of_ble_eq_true rfl) hP hD hS hA hl.1 dL_step_672 (fun H locs hP hD hS => ?_)
    refine hh_seti (y := (yl_lmo (T k))) (rfl) ?_
    refine lv_iconst (v := 2) hx hb dL_step_675 (by decide) ?_
    refine lv_icmp_eq (tgt := 701) hx hb dL_step_676 (by decide) (fun _ => ?_) (fun h9 => absurd (hm2) h9)
    refine lv_iconst (v := 1) hx hb dL_step_701 (by decide) ?_
    refine lv_goto (tgt := 706) hx hb dL_step_702 (by decide) ?_
    exact hh_retS (w := fun (u : (Nat → Int64) × (Nat → Int64) × (Nat → Int32) × (Nat → LT)) => ([zAJ cJ adW 60 u.1, zAJ cJ adU 33 fu, zAJ cJ adG 60 u.2.1, zAI cI adN 6 u.2.2.1] ++ wB cI cJ cO adB adA lf bs a u.2.2.2)) (((vp_updL fw (20 * k + 15) (0 : Int64)), fg, fn, T)) hQ (⟨rfl, SP_same (op_15 hR) (by intro i hi; (try dsimp only); repeat rw [ul_ne _ _ (by omega)]) (fun _ _ => rfl) (fun _ _ _ => rfl)⟩) (rfl) hx hb hr hlocks hP hK hD hS dL_step_706
