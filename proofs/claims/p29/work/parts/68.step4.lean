set_option maxHeartbeats 4000000 in
set_option maxRecDepth 100000 in
theorem c_L_step_4 (l : Launch) (dC : Nat → ClassId) (dI : Nat → Nat → Nat) (cI cJ cZ cO : ClassId) (adB adA adW adU adG adN : Nat) (lf : Nat → Option Nat) (a : Nat → AT) (bs : Int32) (T : Nat → LT) (fw fu fg : Nat → Int64) (fn : Nat → Int32) (k X Y : Nat) (sz : Nat) (hlf : ∀ j : Nat, j < 3 → lf (nI j).toNatClampNeg = some (ya_adL (a j))) (hk : k < 3) (hXk : X % 3 = k) (hX : X < 1073741824) (hY : Y < 1073741824) (hR : RP k (T k) fw fu fg fn) (h15 : fw (20 * k + 15) = 0) : Met l yL_step (Cond.code yL_step cL_step 18 (some .boolean) :: wAll) ({ frames := 5, cells := 0, slots := 0, locals := 122 }) (va_Pc [.ref adB, .int (4 : Int32), .int (nI X), .int (nI Y), .ref adW, .ref adG, .ref adN] (gP (dC, dI) ([zAJ cJ adW 60 fw, zAJ cJ adU 33 fu, zAJ cJ adG 60 fg, zAI cI adN 6 fn] ++ wB cI cJ cO adB adA lf bs a T) (tyG cI cJ cZ cO) sz gN)) (va_Qi (fun r (u : (Nat → Int64) × (Nat → Int64) × (Nat → Int32) × (Nat → LT)) => r = 1 ∧ SPost k T fw fu fg fn u.1 u.2.1 u.2.2.1 u.2.2.2) (fun u t => gB (dC, dI) (va_A ([zAJ cJ adW 60 fw, zAJ cJ adU 33 fu, zAJ cJ adG 60 fg, zAI cI adN 6 fn] ++ wB cI cJ cO adB adA lf bs a T) sz) ([zAJ cJ adW 60 u.1, zAJ cJ adU 33 fu, zAJ cJ adG 60 u.2.1, zAI cI adN 6 u.2.2.1] ++ wB cI cJ cO adB adA lf bs a u.2.2.2) (tyG cI cJ cZ cO) t) (va_A ([zAJ cJ adW 60 fw, zAJ cJ adU 33 fu, zAJ cJ adG 60 fg, zAI cI adN 6 fn] ++ wB cI cJ cO adB adA lf bs a T) sz)) 0 0 (va_A ([zAJ cJ adW 60 fw, zAJ cJ adU 33 fu, zAJ cJ adG 60 fg, zAI cI adN 6 fn] ++ wB cI cJ cO adB adA lf bs a T) sz) := by
  refine Met.ofW (cc := cL_step) (maxL := 18) (ret := (some .boolean)) (by decide) rfl ?_
  intro p e s m args below meth c s₁ B hml hv
  obtain ⟨rfl, hsz, hP, hK, hD0, hG⟩ := hv
  have hx := B.exec
  have hb := B.bytes
  have hr := B.returns
  have hts := ht_of B.pre
  have hown : s.vm.findClass RL = some m.cls := findClass_of_methodNamed B.named
  have hlocks := B.notSynchronized
  subst hsz
  have hD := hD0.self (sz := s.heap.size)
  generalize hAe : va_A ([zAJ cJ adW 60 fw, zAJ cJ adU 33 fu, zAJ cJ adG 60 fg, zAI cI adN 6 fn] ++ wB cI cJ cO adB adA lf bs a T) s.heap.size = A at hD ⊢
  have hA : ∀ q : Nat, s.heap.size ≤ q → A q := fun q h => by rw [← hAe]; exact Or.inr h
  have hS : va_S A s.heap s.heap [] := va_S.rf
  have hl := lv_entry ([.ref adB, .int (4 : Int32), .int (nI X), .int (nI Y), .ref adW, .ref adG, .ref adN]) (n := 18) (Nat.le_of_ble_eq_true rfl)
  rw [lg_entry_eq]
  generalize (lg_sl ([.ref adB, .int (4 : Int32), .int (nI X), .int (nI Y), .ref adW, .ref adG, .ref adN]) ++ List.replicate (18 - (lg_sl ([.ref adB, .int (4 : Int32), .int (nI X), .int (nI Y), .ref adW, .ref adG, .ref adN])).length) Slot.unset).toArray = ls at hl ⊢
  have hl : lv_has ls 18 [(0, .ref adB), (1, .int (4 : Int32)), (2, .int (nI X)), (3, .int (nI Y)), (4, .ref adW), (5, .ref adG), (6, .ref adN)] := hl
  refine hh_name (fun Q hQ => ?_)
  have K := fx_mk hx hb hml hown hts hG hK hlf
  have hcs : (0 : Nat) ≤ 0 ∧ (0 : Nat) ≤ 0 := ⟨Nat.zero_le _, Nat.zero_le _⟩
  refine lv_iload_n hx hb dL_step_0 rfl (lv_at hl 2 rfl) ?_
  refine lv_iconst (v := 3) hx hb dL_step_1 (by decide) ?_
  refine lv_irem hx hb dL_step_2 (by decide) ?_
  refine hh_seti (y := (nI ((X % 3)))) (lwMod (a := X) (b := 3) (by omega) (by decide) (by decide) rfl) ?_
  refine hh_seti (y := nI k) (by rw [hXk]) ?_
  refine lv_istore (lv' := [(7, .int (nI k)), (0, .ref adB), (1, .int (4 : Int32)), (2, .int (nI X)), (3, .int (nI Y)), (4, .ref adW), (5, .ref adG), (6, .ref adN)]) hx hb dL_step_3 hl (by decide) rfl (fun ls hl => ?_)
  refine lv_bipush (v := 20) hx hb dL_step_5 (by decide) ?_
  refine lv_iload hx hb dL_step_7 (lv_at hl 0 rfl) ?_
  refine lv_imul hx hb dL_step_9 ?_
  refine hh_seti (y := (nI (20 * k))) (lwMul (a := 20) (b := k) (by omega)) ?_
  refine lv_istore (lv' := [(8, .int (nI (20 * k))), (7, .int (nI k)), (0, .ref adB), (1, .int (4 : Int32)), (2, .int (nI X)), (3, .int (nI Y)), (4, .ref adW), (5, .ref adG), (6, .ref adN)]) hx hb dL_step_10 hl (by decide) rfl (fun ls hl => ?_)
  refine lv_iload_n hx hb dL_step_12 rfl (lv_at hl 3 rfl) ?_
  refine lv_tableIn (off := 516) (tgt := 529) hx hb dL_step_13 (by decide) (by decide) rfl (by decide) ?_
  refine lv_aload hx hb dL_step_529 (lv_at hl 6 rfl) ?_
  refine lv_iload hx hb dL_step_531 (lv_at hl 0 rfl) ?_
  refine lv_iconst (v := 5) hx hb dL_step_533 (by decide) ?_
  refine lv_iadd hx hb dL_step_534 ?_
  refine hh_seti (y := (nI (20 * k + 5))) (lwAdd (a := 20 * k) (b := 5) (by omega)) ?_
  refine lv_iload_n hx hb dL_step_535 rfl (lv_at hl 5 rfl) ?_
  refine lv_iconst (v := 4) hx hb dL_step_536 (by decide) ?_
  refine lv_irem hx hb dL_step_537 (by decide) ?_
  refine hh_seti (y := (nI ((Y % 4)))) (lwMod (a := Y) (b := 4) (by omega) (by decide) (by decide) rfl) ?_
  refine lv_if_ne (tgt := 552) hx hb dL_step_538 (by decide) (fun h538 => ?_) (fun h538 => ?_)
  · skip
    refine lv_iload_n hx hb dL_step_552 rfl (lv_at hl 5 rfl) ?_
    refine lv_ineg hx hb dL_step_553 ?_
    refine lv_sipush (v := 4000) hx hb dL_step_554 (by decide) ?_
    refine lv_irem hx hb dL_step_557 (by decide) ?_
    refine lv_i2l hx hb dL_step_558 rfl ?_
    refine lr_ls hx hb hK hP hD hS 0 1 (e0 := 20 * k + 5) rfl rfl (by omega) (by decide) dL_step_559 (w1 := ([zAJ cJ adW 60 (vp_updL fw (20 * k + 5) (((-(nI Y)) - (-(nI Y)) / (4000 : Int32) * (4000 : Int32)).toInt64)), zAJ cJ adU 33 fu, zAJ cJ adG 60 fg, zAI cI adN 6 fn] ++ wB cI cJ cO adB adA lf bs a T)) rfl (fun H locs hP hD hS => ?_)
    refine lv_aload hx hb dL_step_560 (lv_at hl 6 rfl) ?_
    refine lv_iload hx hb dL_step_562 (lv_at hl 0 rfl) ?_
    refine lv_bipush (v := 6) hx hb dL_step_564 (by decide) ?_
    refine lv_iadd hx hb dL_step_566 ?_
    refine hh_seti (y := (nI (20 * k + 6))) (lwAdd (a := 20 * k) (b := 6) (by omega)) ?_
    refine lv_aload hx hb dL_step_567 (lv_at hl 6 rfl) ?_
    refine lv_iload hx hb dL_step_569 (lv_at hl 0 rfl) ?_
    refine lv_iconst (v := 5) hx hb dL_step_571 (by decide) ?_
    refine lv_iadd hx hb dL_step_572 ?_
    refine hh_seti (y := (nI (20 * k + 5))) (lwAdd (a := 20 * k) (b := 5) (by omega)) ?_
    refine lr_ll hx hb hK hP 0 1 (e0 := 20 * k + 5) rfl rfl (by omega) (by decide) dL_step_573 ?_
    refine hh_setl (y := ((-(nI Y)) - (-(nI Y)) / (4000 : Int32) * (4000 : Int32)).toInt64) ((ul_eq _ _ _).symm) ?_
    refine lv_iload_n hx hb dL_step_574 rfl (lv_at hl 4 rfl) ?_
    refine lv_iconst (v := 3) hx hb dL_step_575 (by decide) ?_
    refine lv_idiv hx hb dL_step_576 (by decide) ?_
    refine hh_seti (y := (nI ((X / 3)))) (lwDiv (a := X) (b := 3) (by omega) (by decide) (by decide) rfl) ?_
    refine lv_ldc (v := 60000) hx hb hown (hts _ wd_2_229) dL_step_577 ?_
    refine lv_irem hx hb dL_step_579 (by decide) ?_
    refine hh_seti (y := (nI ((((X / 3)) % 60000)))) (lwMod (a := (X / 3)) (b := 60000) (by omega) (by decide) (by decide) rfl) ?_
    refine lv_i2l hx hb dL_step_580 rfl ?_
    refine lv_ladd hx hb dL_step_581 ?_
    refine hh_setl (y := (((-(nI Y)) - (-(nI Y)) / (4000 : Int32) * (4000 : Int32)) + nI (X / 3 % 60000)).toInt64) (lm_w (n := X / 3 % 60000) (by rw [(ng_mod (n := Y) (by omega))]; omega) (by omega)) ?_
    refine lr_ls hx hb hK hP hD hS 0 1 (e0 := 20 * k + 6) rfl rfl (by omega) (by decide) dL_step_582 (w1 := ([zAJ cJ adW 60 (vp_updL (vp_updL fw (20 * k + 5) (((-(nI Y)) - (-(nI Y)) / (4000 : Int32) * (4000 : Int32)).toInt64)) (20 * k + 6) ((((-(nI Y)) - (-(nI Y)) / (4000 : Int32) * (4000 : Int32)) + nI (X / 3 % 60000)).toInt64)), zAJ cJ adU 33 fu, zAJ cJ adG 60 fg, zAI cI adN 6 fn] ++ wB cI cJ cO adB adA lf bs a T)) rfl (fun H locs hP hD hS => ?_)
    refine lv_aload_n hx hb dL_step_583 rfl (lv_at hl 2 rfl) ?_
    refine lv_iload hx hb dL_step_584 (lv_at hl 1 rfl) ?_
    refine lv_aload hx hb dL_step_586 (lv_at hl 6 rfl) ?_
    refine lv_iload hx hb dL_step_588 (lv_at hl 0 rfl) ?_
    refine lv_iconst (v := 5) hx hb dL_step_590 (by decide) ?_
    refine lv_iadd hx hb dL_step_591 ?_
    refine hh_seti (y := (nI (20 * k + 5))) (lwAdd (a := 20 * k) (b := 5) (by omega)) ?_
    refine lr_ll hx hb hK hP 0 1 (e0 := 20 * k + 5) rfl rfl (by omega) (by decide) dL_step_592 ?_
    refine hh_setl (y := ((-(nI Y)) - (-(nI Y)) / (4000 : Int32) * (4000 : Int32)).toInt64) (((ul_ne _ _ (by omega)).trans (ul_eq _ _ _)).symm) ?_
    refine lv_l2i hx hb dL_step_593 rfl ?_
    refine hh_seti (y := ((-(nI Y)) - (-(nI Y)) / (4000 : Int32) * (4000 : Int32))) (t3264 _).symm ?_
    refine lv_aload hx hb dL_step_594 (lv_at hl 6 rfl) ?_
    refine lv_iload hx hb dL_step_596 (lv_at hl 0 rfl) ?_
    refine lv_bipush (v := 6) hx hb dL_step_598 (by decide) ?_
    refine lv_iadd hx hb dL_step_600 ?_
    refine hh_seti (y := (nI (20 * k + 6))) (lwAdd (a := 20 * k) (b := 6) (by omega)) ?_
    refine lr_ll hx hb hK hP 0 1 (e0 := 20 * k + 6) rfl rfl (by omega) (by decide) dL_step_601 ?_
    refine hh_setl (y := (((-(nI Y)) - (-(nI Y)) / (4000 : Int32) * (4000 : Int32)) + nI (X / 3 % 60000)).toInt64) ((ul_eq _ _ _).symm) ?_
    refine lv_l2i hx hb dL_step_602 rfl ?_
    refine hh_seti (y := (((-(nI Y)) - (-(nI Y)) / (4000 : Int32) * (4000 : Int32)) + nI (X / 3 % 60000))) (t3264 _).symm ?_
    refine s_setLimits (k := k) (lov := ((-(nI Y)) - (-(nI Y)) / (4000 : Int32) * (4000 : Int32))) (hiv := (((-(nI Y)) - (-(nI Y)) / (4000 : Int32) * (4000 : Int32)) + nI (X / 3 % 60000))) K hk (bd_lo (M := -1000000) (ng_mod (n := Y) (by omega)) (by decide) (by omega)) (bd_hi (M := 1000000) (ng_mod (n := Y) (by omega)) (by decide) (by omega)) (bd_lo ((lm_i (n := X / 3 % 60000) (by rw [(ng_mod (n := Y) (by omega))]; omega) (by omega)).trans (congrArg (fun z : Int => z + ((X / 3 % 60000 : Nat) : Int)) (ng_mod (n := Y) (by omega)))) (ng_mod (n := Y) (by omega)) (by omega)) (bd_hi (M := 1000000) ((lm_i (n := X / 3 % 60000) (by rw [(ng_mod (n := Y) (by omega))]; omega) (by omega)).trans (congrArg (fun z : Int => z + ((X / 3 % 60000 : Nat) : Int)) (ng_mod (n := Y) (by omega)))) (by decide) (by omega)) ⟨Nat.le_of_ble_eq_true rfl, Nat.le_of_ble_eq_true rfl⟩ hcs (Nat.le_of_ble_eq_true rfl) hP hD hS hA hl.1 dL_step_603 (fun H locs hP hD hS => ?_)
    refine lv_iconst (v := 1) hx hb dL_step_606 (by decide) ?_
    exact hh_retS (w := fun (u : (Nat → Int64) × (Nat → Int64) × (Nat → Int32) × (Nat → LT)) => ([zAJ cJ adW 60 u.1, zAJ cJ adU 33 fu, zAJ cJ adG 60 u.2.1, zAI cI adN 6 u.2.2.1] ++ wB cI cJ cO adB adA lf bs a u.2.2.2)) (((vp_updL (vp_updL fw (20 * k + 5) (((-(nI Y)) - (-(nI Y)) / (4000 : Int32) * (4000 : Int32)).toInt64)) (20 * k + 6) ((((-(nI Y)) - (-(nI Y)) / (4000 : Int32) * (4000 : Int32)) + nI (X / 3 % 60000)).toInt64)), fg, fn, (upT T k (lu_setLimits (T k) ((-(nI Y)) - (-(nI Y)) / (4000 : Int32) * (4000 : Int32)) (((-(nI Y)) - (-(nI Y)) / (4000 : Int32) * (4000 : Int32)) + nI (X / 3 % 60000)))))) hQ (⟨rfl, SP_mk (op_setLimits hR (lm_l (by rw [(ng_mod (n := Y) (by omega))]; omega) (by omega))) (by intro i hi; (try dsimp only); repeat rw [ul_ne _ _ (by omega)]) (fun _ _ => rfl) (fun _ _ _ => rfl)⟩) (rfl) hx hb hr hlocks hP hK hD hS dL_step_607
  · skip
    refine lv_iload_n hx hb dL_step_541 rfl (lv_at hl 5 rfl) ?_
    refine lv_ldc (v := 200001) hx hb hown (hts _ wd_2_227) dL_step_542 ?_
    refine lv_irem hx hb dL_step_544 (by decide) ?_
    refine hh_seti (y := (nI ((Y % 200001)))) (lwMod (a := Y) (b := 200001) (by omega) (by decide) (by decide) rfl) ?_
    refine lv_ldc (v := 100000) hx hb hown (hts _ wd_2_228) dL_step_545 ?_
    refine lv_isub hx hb dL_step_547 ?_
    refine lv_i2l hx hb dL_step_548 rfl ?_
    refine lv_goto (tgt := 559) hx hb dL_step_549 (by decide) ?_
    refine lr_ls hx hb hK hP hD hS 0 1 (e0 := 20 * k + 5) rfl rfl (by omega) (by decide) dL_step_559 (w1 := ([zAJ cJ adW 60 (vp_updL fw (20 * k + 5) (((nI ((Y % 200001))) - (100000 : Int32)).toInt64)), zAJ cJ adU 33 fu, zAJ cJ adG 60 fg, zAI cI adN 6 fn] ++ wB cI cJ cO adB adA lf bs a T)) rfl (fun H locs hP hD hS => ?_)
    refine lv_aload hx hb dL_step_560 (lv_at hl 6 rfl) ?_
    refine lv_iload hx hb dL_step_562 (lv_at hl 0 rfl) ?_
    refine lv_bipush (v := 6) hx hb dL_step_564 (by decide) ?_
    refine lv_iadd hx hb dL_step_566 ?_
    refine hh_seti (y := (nI (20 * k + 6))) (lwAdd (a := 20 * k) (b := 6) (by omega)) ?_
    refine lv_aload hx hb dL_step_567 (lv_at hl 6 rfl) ?_
    refine lv_iload hx hb dL_step_569 (lv_at hl 0 rfl) ?_
    refine lv_iconst (v := 5) hx hb dL_step_571 (by decide) ?_
    refine lv_iadd hx hb dL_step_572 ?_
    refine hh_seti (y := (nI (20 * k + 5))) (lwAdd (a := 20 * k) (b := 5) (by omega)) ?_
    refine lr_ll hx hb hK hP 0 1 (e0 := 20 * k + 5) rfl rfl (by omega) (by decide) dL_step_573 ?_
    refine hh_setl (y := ((nI ((Y % 200001))) - (100000 : Int32)).toInt64) ((ul_eq _ _ _).symm) ?_
    refine lv_iload_n hx hb dL_step_574 rfl (lv_at hl 4 rfl) ?_
    refine lv_iconst (v := 3) hx hb dL_step_575 (by decide) ?_
    refine lv_idiv hx hb dL_step_576 (by decide) ?_
    refine hh_seti (y := (nI ((X / 3)))) (lwDiv (a := X) (b := 3) (by omega) (by decide) (by decide) rfl) ?_
    refine lv_ldc (v := 60000) hx hb hown (hts _ wd_2_229) dL_step_577 ?_
    refine lv_irem hx hb dL_step_579 (by decide) ?_
    refine hh_seti (y := (nI ((((X / 3)) % 60000)))) (lwMod (a := (X / 3)) (b := 60000) (by omega) (by decide) (by decide) rfl) ?_
    refine lv_i2l hx hb dL_step_580 rfl ?_
    refine lv_ladd hx hb dL_step_581 ?_
    refine hh_setl (y := (((nI ((Y % 200001))) - (100000 : Int32)) + nI (X / 3 % 60000)).toInt64) (lm_w (n := X / 3 % 60000) (by rw [(bd_s (n := (Y % 200001)) (c := 100000) (C := 100000) rfl (by omega) (by omega))]; omega) (by omega)) ?_
    refine lr_ls hx hb hK hP hD hS 0 1 (e0 := 20 * k + 6) rfl rfl (by omega) (by decide) dL_step_582 (w1 := ([zAJ cJ adW 60 (vp_updL (vp_updL fw (20 * k + 5) (((nI ((Y % 200001))) - (100000 : Int32)).toInt64)) (20 * k + 6) ((((nI ((Y % 200001))) - (100000 : Int32)) + nI (X / 3 % 60000)).toInt64)), zAJ cJ adU 33 fu, zAJ cJ adG 60 fg, zAI cI adN 6 fn] ++ wB cI cJ cO adB adA lf bs a T)) rfl (fun H locs hP hD hS => ?_)
    refine lv_aload_n hx hb dL_step_583 rfl (lv_at hl 2 rfl) ?_
    refine lv_iload hx hb dL_step_584 (lv_at hl 1 rfl) ?_
    refine lv_aload hx hb dL_step_586 (lv_at hl 6 rfl) ?_
    refine lv_iload hx hb dL_step_588 (lv_at hl 0 rfl) ?_
    refine lv_iconst (v := 5) hx hb dL_step_590 (by decide) ?_
    refine lv_iadd hx hb dL_step_591 ?_
    refine hh_seti (y := (nI (20 * k + 5))) (lwAdd (a := 20 * k) (b := 5) (by omega)) ?_
    refine lr_ll hx hb hK hP 0 1 (e0 := 20 * k + 5) rfl rfl (by omega) (by decide) dL_step_592 ?_
    refine hh_setl (y := ((nI ((Y % 200001))) - (100000 : Int32)).toInt64) (((ul_ne _ _ (by omega)).trans (ul_eq _ _ _)).symm) ?_
    refine lv_l2i hx hb dL_step_593 rfl ?_
    refine hh_seti (y := ((nI ((Y % 200001))) - (100000 : Int32))) (t3264 _).symm ?_
    refine lv_aload hx hb dL_step_594 (lv_at hl 6 rfl) ?_
    refine lv_iload hx hb dL_step_596 (lv_at hl 0 rfl) ?_
    refine lv_bipush (v := 6) hx hb dL_step_598 (by decide) ?_
    refine lv_iadd hx hb dL_step_600 ?_
    refine hh_seti (y := (nI (20 * k + 6))) (lwAdd (a := 20 * k) (b := 6) (by omega)) ?_
    refine lr_ll hx hb hK hP 0 1 (e0 := 20 * k + 6) rfl rfl (by omega) (by decide) dL_step_601 ?_
    refine hh_setl (y := (((nI ((Y % 200001))) - (100000 : Int32)) + nI (X / 3 % 60000)).toInt64) ((ul_eq _ _ _).symm) ?_
    refine lv_l2i hx hb dL_step_602 rfl ?_
    refine hh_seti (y := (((nI ((Y % 200001))) - (100000 : Int32)) + nI (X / 3 % 60000))) (t3264 _).symm ?_
    refine s_setLimits (k := k) (lov := ((nI ((Y % 200001))) - (100000 : Int32))) (hiv := (((nI ((Y % 200001))) - (100000 : Int32)) + nI (X / 3 % 60000))) K hk (bd_lo (M := -1000000) (bd_s (n := (Y % 200001)) (c := 100000) (C := 100000) rfl (by omega) (by omega)) (by decide) (by omega)) (bd_hi (M := 1000000) (bd_s (n := (Y % 200001)) (c := 100000) (C := 100000) rfl (by omega) (by omega)) (by decide) (by omega)) (bd_lo ((lm_i (n := X / 3 % 60000) (by rw [(bd_s (n := (Y % 200001)) (c := 100000) (C := 100000) rfl (by omega) (by omega))]; omega) (by omega)).trans (congrArg (fun z : Int => z + ((X / 3 % 60000 : Nat) : Int)) (bd_s (n := (Y % 200001)) (c := 100000) (C := 100000) rfl (by omega) (by omega)))) (bd_s (n := (Y % 200001)) (c := 100000) (C := 100000) rfl (by omega) (by omega)) (by omega)) (bd_hi (M := 1000000) ((lm_i (n := X / 3 % 60000) (by rw [(bd_s (n := (Y % 200001)) (c := 100000) (C := 100000) rfl (by omega) (by omega))]; omega) (by omega)).trans (congrArg (fun z : Int => z + ((X / 3 % 60000 : Nat) : Int)) (bd_s (n := (Y % 200001)) (c := 100000) (C := 100000) rfl (by omega) (by omega)))) (by decide) (by omega)) ⟨Nat.le_of_ble_eq_true rfl, Nat.le_of_ble_eq_true rfl⟩ hcs (Nat.le_of_ble_eq_true rfl) hP hD hS hA hl.1 dL_step_603 (fun H locs hP hD hS => ?_)
    refine lv_iconst (v := 1) hx hb dL_step_606 (by decide) ?_
    exact hh_retS (w := fun (u : (Nat → Int64) × (Nat → Int64) × (Nat → Int32) × (Nat → LT)) => ([zAJ cJ adW 60 u.1, zAJ cJ adU 33 fu, zAJ cJ adG 60 u.2.1, zAI cI adN 6 u.2.2.1] ++ wB cI cJ cO adB adA lf bs a u.2.2.2)) (((vp_updL (vp_updL fw (20 * k + 5) (((nI ((Y % 200001))) - (100000 : Int32)).toInt64)) (20 * k + 6) ((((nI ((Y % 200001))) - (100000 : Int32)) + nI (X / 3 % 60000)).toInt64)), fg, fn, (upT T k (lu_setLimits (T k) ((nI ((Y % 200001))) - (100000 : Int32)) (((nI ((Y % 200001))) - (100000 : Int32)) + nI (X / 3 % 60000)))))) hQ (⟨rfl, SP_mk (op_setLimits hR (lm_l (by rw [(bd_s (n := (Y % 200001)) (c := 100000) (C := 100000) rfl (by omega) (by omega))]; omega) (by omega))) (by intro i hi; (try dsimp only); repeat rw [ul_ne _ _ (by omega)]) (fun _ _ => rfl) (fun _ _ _ => rfl)⟩) (rfl) hx hb hr hlocks hP hK hD hS dL_step_607
