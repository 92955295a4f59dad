set_option maxHeartbeats 4000000 in
set_option maxRecDepth 100000 in
theorem c_L_step_7 (l : Launch) (dC : Nat → ClassId) (dI : Nat → Nat → Nat) (cI cJ cZ cO : ClassId) (adB adA adW adU adG adN : Nat) (lf : Nat → Option Nat) (a : Nat → AT) (bs : Int32) (T : Nat → LT) (fw fu fg : Nat → Int64) (fn : Nat → Int32) (k X Y : Nat) (sz : Nat) (hlf : ∀ j : Nat, j < 3 → lf (nI j).toNatClampNeg = some (ya_adL (a j))) (hk : k < 3) (hXk : X % 3 = k) (hX : X < 1073741824) (hY : Y < 1073741824) (hR : RP k (T k) fw fu fg fn) (h15 : fw (20 * k + 15) = 0) : Met l yL_step (Cond.code yL_step cL_step 18 (some .boolean) :: wAll) ({ frames := 5, cells := 0, slots := 0, locals := 122 }) (va_Pc [.ref adB, .int (7 : Int32), .int (nI X), .int (nI Y), .ref adW, .ref adG, .ref adN] (gP (dC, dI) ([zAJ cJ adW 60 fw, zAJ cJ adU 33 fu, zAJ cJ adG 60 fg, zAI cI adN 6 fn] ++ wB cI cJ cO adB adA lf bs a T) (tyG cI cJ cZ cO) sz gN)) (va_Qi (fun r (u : (Nat → Int64) × (Nat → Int64) × (Nat → Int32) × (Nat → LT)) => r = 1 ∧ SPost k T fw fu fg fn u.1 u.2.1 u.2.2.1 u.2.2.2) (fun u t => gB (dC, dI) (va_A ([zAJ cJ adW 60 fw, zAJ cJ adU 33 fu, zAJ cJ adG 60 fg, zAI cI adN 6 fn] ++ wB cI cJ cO adB adA lf bs a T) sz) ([zAJ cJ adW 60 u.1, zAJ cJ adU 33 fu, zAJ cJ adG 60 u.2.1, zAI cI adN 6 u.2.2.1] ++ wB cI cJ cO adB adA lf bs a u.2.2.2) (tyG cI cJ cZ cO) t) (va_A ([zAJ cJ adW 60 fw, zAJ cJ adU 33 fu, zAJ cJ adG 60 fg, zAI cI adN 6 fn] ++ wB cI cJ cO adB adA lf bs a T) sz)) 0 0 (va_A ([zAJ cJ adW 60 fw, zAJ cJ adU 33 fu, zAJ cJ adG 60 fg, zAI cI adN 6 fn] ++ wB cI cJ cO adB adA lf bs a T) sz) := by
  refine Met.ofW (cc := cL_step) (maxL := 18) (ret := (some .boolean)) (by decide) rfl ?_
  intro p e s m args below meth c s₁ B hml hv
  obtain ⟨rfl, hsz, hP, hK, hD0, hG⟩ := hv
  have hx := B.exec
  have hb := B.bytes
  have hr := B.returns
  have hts := ht_of B.pre
  have hown : s.vm.findClass RL = some m.cls := findClass_of_methodNamed B.named
  have hlocks := B.notSynchronized
  subst hsz
  have hD := hD0.self (sz := s.heap.size)
  generalize hAe : va_A ([zAJ cJ adW 60 fw, zAJ cJ adU 33 fu, zAJ cJ adG 60 fg, zAI cI adN 6 fn] ++ wB cI cJ cO adB adA lf bs a T) s.heap.size = A at hD ⊢
  have hA : ∀ q : Nat, s.heap.size ≤ q → A q := fun q h => by rw [← hAe]; exact Or.inr h
  have hS : va_S A s.heap s.heap [] := va_S.rf
  have hl := lv_entry ([.ref adB, .int (7 : Int32), .int (nI X), .int (nI Y), .ref adW, .ref adG, .ref adN]) (n := 18) (Nat.le_of_ble_eq_true rfl)
  rw [lg_entry_eq]
  generalize (lg_sl ([.ref adB, .int (7 : Int32), .int (nI X), .int (nI Y), .ref adW, .ref adG, .ref adN]) ++ List.replicate (18 - (lg_sl ([.ref adB, .int (7 : Int32), .int (nI X), .int (nI Y), .ref adW, .ref adG, .ref adN])).length) Slot.unset).toArray = ls at hl ⊢
  have hl : lv_has ls 18 [(0, .ref adB), (1, .int (7 : Int32)), (2, .int (nI X)), (3, .int (nI Y)), (4, .ref adW), (5, .ref adG), (6, .ref adN)] := hl
  refine hh_name (fun Q hQ => ?_)
  have K := fx_mk hx hb hml hown hts hG hK hlf
  have hcs : (0 : Nat) ≤ 0 ∧ (0 : Nat) ≤ 0 := ⟨Nat.zero_le _, Nat.zero_le _⟩
  refine lv_iload_n hx hb dL_step_0 rfl (lv_at hl 2 rfl) ?_
  refine lv_iconst (v := 3) hx hb dL_step_1 (by decide) ?_
  refine lv_irem hx hb dL_step_2 (by decide) ?_
  refine hh_seti (y := (nI ((X % 3)))) (lwMod (a := X) (b := 3) (by omega) (by decide) (by decide) rfl) ?_
  refine hh_seti (y := nI k) (by rw [hXk]) ?_
  refine lv_istore (lv' := [(7, .int (nI k)), (0, .ref adB), (1, .int (7 : Int32)), (2, .int (nI X)), (3, .int (nI Y)), (4, .ref adW), (5, .ref adG), (6, .ref adN)]) hx hb dL_step_3 hl (by decide) rfl (fun ls hl => ?_)
  refine lv_bipush (v := 20) hx hb dL_step_5 (by decide) ?_
  refine lv_iload hx hb dL_step_7 (lv_at hl 0 rfl) ?_
  refine lv_imul hx hb dL_step_9 ?_
  refine hh_seti (y := (nI (20 * k))) (lwMul (a := 20) (b := k) (by omega)) ?_
  refine lv_istore (lv' := [(8, .int (nI (20 * k))), (7, .int (nI k)), (0, .ref adB), (1, .int (7 : Int32)), (2, .int (nI X)), (3, .int (nI Y)), (4, .ref adW), (5, .ref adG), (6, .ref adN)]) hx hb dL_step_10 hl (by decide) rfl (fun ls hl => ?_)
  refine lv_iload_n hx hb dL_step_12 rfl (lv_at hl 3 rfl) ?_
  refine lv_tableIn (off := 694) (tgt := 707) hx hb dL_step_13 (by decide) (by decide) rfl (by decide) ?_
  refine lv_aload hx hb dL_step_707 (lv_at hl 6 rfl) ?_
  refine lv_iload hx hb dL_step_709 (lv_at hl 0 rfl) ?_
  refine lv_bipush (v := 7) hx hb dL_step_711 (by decide) ?_
  refine lv_iadd hx hb dL_step_713 ?_
  refine hh_seti (y := (nI (20 * k + 7))) (lwAdd (a := 20 * k) (b := 7) (by omega)) ?_
  refine lr_ll hx hb hK hP 0 1 (e0 := 20 * k + 7) rfl rfl (by omega) (by decide) dL_step_714 ?_
  refine lv_lstore (lv' := [(14, .long (fw (20 * k + 7))), (8, .int (nI (20 * k))), (7, .int (nI k)), (0, .ref adB), (1, .int (7 : Int32)), (2, .int (nI X)), (3, .int (nI Y)), (4, .ref adW), (5, .ref adG), (6, .ref adN)]) hx hb dL_step_715 hl (by decide) rfl (fun ls hl => ?_)
  refine lv_aload_n hx hb dL_step_717 rfl (lv_at hl 3 rfl) ?_
  refine lv_iload hx hb dL_step_718 (lv_at hl 2 rfl) ?_
  refine s_mode (k := k)  K hk  ⟨Nat.le_of_ble_eq_true rfl, Nat.le_of_ble_eq_true rfl⟩ hcs (Nat.le_of_ble_eq_true rfl) hP hD hS hA hl.1 dL_step_720 (fun H locs hP hD hS => ?_)
  refine hh_seti (y := (yl_lmo (T k))) (rfl) ?_
  refine lv_if_eq (tgt := 728) hx hb dL_step_723 (by decide) (fun h0 => ?_) (fun h0 => ?_)
  · skip
    refine lv_aload hx hb dL_step_728 (lv_at hl 7 rfl) ?_
    refine lv_iload hx hb dL_step_730 (lv_at hl 1 rfl) ?_
    refine lv_bipush (v := 7) hx hb dL_step_732 (by decide) ?_
    refine lv_iadd hx hb dL_step_734 ?_
    refine hh_seti (y := (nI (20 * k + 7))) (lwAdd (a := 20 * k) (b := 7) (by omega)) ?_
    refine lv_iload_n hx hb dL_step_735 rfl (lv_at hl 6 rfl) ?_
    refine lv_sipush (v := 20001) hx hb dL_step_736 (by decide) ?_
    refine lv_irem hx hb dL_step_739 (by decide) ?_
    refine hh_seti (y := (nI ((Y % 20001)))) (lwMod (a := Y) (b := 20001) (by omega) (by decide) (by decide) rfl) ?_
    refine lv_sipush (v := 5000) hx hb dL_step_740 (by decide) ?_
    refine lv_isub hx hb dL_step_743 ?_
    refine lv_i2l hx hb dL_step_744 rfl ?_
    refine lr_ls hx hb hK hP hD hS 0 1 (e0 := 20 * k + 7) rfl rfl (by omega) (by decide) dL_step_745 (w1 := ([zAJ cJ adW 60 (vp_updL fw (20 * k + 7) (((nI ((Y % 20001))) - (5000 : Int32)).toInt64)), zAJ cJ adU 33 fu, zAJ cJ adG 60 fg, zAI cI adN 6 fn] ++ wB cI cJ cO adB adA lf bs a T)) rfl (fun H locs hP hD hS => ?_)
    refine lv_aload_n hx hb dL_step_746 rfl (lv_at hl 3 rfl) ?_
    refine lv_iload hx hb dL_step_747 (lv_at hl 2 rfl) ?_
    refine lv_aload hx hb dL_step_749 (lv_at hl 7 rfl) ?_
    refine lv_iload hx hb dL_step_751 (lv_at hl 1 rfl) ?_
    refine lv_bipush (v := 7) hx hb dL_step_753 (by decide) ?_
    refine lv_iadd hx hb dL_step_755 ?_
    refine hh_seti (y := (nI (20 * k + 7))) (lwAdd (a := 20 * k) (b := 7) (by omega)) ?_
    refine lr_ll hx hb hK hP 0 1 (e0 := 20 * k + 7) rfl rfl (by omega) (by decide) dL_step_756 ?_
    refine hh_setl (y := ((nI ((Y % 20001))) - (5000 : Int32)).toInt64) ((ul_eq _ _ _).symm) ?_
    refine lv_l2i hx hb dL_step_757 rfl ?_
    refine hh_seti (y := ((nI ((Y % 20001))) - (5000 : Int32))) (t3264 _).symm ?_
    refine s_setHand (k := k) (hav := ((nI ((Y % 20001))) - (5000 : Int32))) K hk (bd_lo (M := -1000000) (bd_s (n := (Y % 20001)) (c := 5000) (C := 5000) rfl (by omega) (by omega)) (by decide) (by omega)) (bd_hi (M := 1000000) (bd_s (n := (Y % 20001)) (c := 5000) (C := 5000) rfl (by omega) (by omega)) (by decide) (by omega)) (sh_q h0) ⟨Nat.le_of_ble_eq_true rfl, Nat.le_of_ble_eq_true rfl⟩ hcs (Nat.le_of_ble_eq_true rfl) hP hD hS hA hl.1 dL_step_758 (fun H locs hP hD hS => ?_)
    refine lv_i2l hx hb dL_step_761 rfl ?_
    refine lv_lload hx hb dL_step_762 (lv_at hl 0 rfl) ?_
    refine hh_cne (tgt := 772) hx hb dL_step_764 dL_step_765 (by decide) (fun h9 => absurd (sh_r hR) h9) (fun _ => ?_)
    refine lv_iconst (v := 1) hx hb dL_step_768 (by decide) ?_
    refine lv_goto (tgt := 773) hx hb dL_step_769 (by decide) ?_
    exact hh_retS (w := fun (u : (Nat → Int64) × (Nat → Int64) × (Nat → Int32) × (Nat → LT)) => ([zAJ cJ adW 60 u.1, zAJ cJ adU 33 fu, zAJ cJ adG 60 u.2.1, zAI cI adN 6 u.2.2.1] ++ wB cI cJ cO adB adA lf bs a u.2.2.2)) (((vp_updL fw (20 * k + 7) (((nI ((Y % 20001))) - (5000 : Int32)).toInt64)), fg, fn, (upT T k (lu_setHand (T k) ((nI ((Y % 20001))) - (5000 : Int32)))))) hQ (⟨rfl, SP_mk (op_setHand hR (by rw [(bd_s (n := (Y % 20001)) (c := 5000) (C := 5000) rfl (by omega) (by omega))]; omega)) (by intro i hi; (try dsimp only); repeat rw [ul_ne _ _ (by omega)]) (fun _ _ => rfl) (fun _ _ _ => rfl)⟩) (rfl) hx hb hr hlocks hP hK hD hS dL_step_773
  · skip
    refine lv_iconst (v := 1) hx hb dL_step_726 (by decide) ?_
    exact hh_retS (w := fun (u : (Nat → Int64) × (Nat → Int64) × (Nat → Int32) × (Nat → LT)) => ([zAJ cJ adW 60 u.1, zAJ cJ adU 33 fu, zAJ cJ adG 60 u.2.1, zAI cI adN 6 u.2.2.1] ++ wB cI cJ cO adB adA lf bs a u.2.2.2)) ((fw, fg, fn, T)) hQ (⟨rfl, SP_id hR⟩) (rfl) hx hb hr hlocks hP hK hD hS dL_step_727
