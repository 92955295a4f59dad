set_option maxHeartbeats 4000000 in
set_option maxRecDepth 100000 in
theorem c_L_step_3 (l : Launch) (dC : Nat → ClassId) (dI : Nat → Nat → Nat) (cI cJ cZ cO : ClassId) (adB adA adW adU adG adN : Nat) (lf : Nat → Option Nat) (a : Nat → AT) (bs : Int32) (T : Nat → LT) (fw fu fg : Nat → Int64) (fn : Nat → Int32) (k X Y : Nat) (sz : Nat) (hlf : ∀ j : Nat, j < 3 → lf (nI j).toNatClampNeg = some (ya_adL (a j))) (hk : k < 3) (hXk : X % 3 = k) (hX : X < 1073741824) (hY : Y < 1073741824) (hR : RP k (T k) fw fu fg fn) (h15 : fw (20 * k + 15) = 0) : Met l yL_step (Cond.code yL_step cL_step 18 (some .boolean) :: wAll) ({ frames := 5, cells := 0, slots := 0, locals := 122 }) (va_Pc [.ref adB, .int (3 : Int32), .int (nI X), .int (nI Y), .ref adW, .ref adG, .ref adN] (gP (dC, dI) ([zAJ cJ adW 60 fw, zAJ cJ adU 33 fu, zAJ cJ adG 60 fg, zAI cI adN 6 fn] ++ wB cI cJ cO adB adA lf bs a T) (tyG cI cJ cZ cO) sz gN)) (va_Qi (fun r (u : (Nat → Int64) × (Nat → Int64) × (Nat → Int32) × (Nat → LT)) => r = 1 ∧ SPost k T fw fu fg fn u.1 u.2.1 u.2.2.1 u.2.2.2) (fun u t => gB (dC, dI) (va_A ([zAJ cJ adW 60 fw, zAJ cJ adU 33 fu, zAJ cJ adG 60 fg, zAI cI adN 6 fn] ++ wB cI cJ cO adB adA lf bs a T) sz) ([zAJ cJ adW 60 u.1, zAJ cJ adU 33 fu, zAJ cJ adG 60 u.2.1, zAI cI adN 6 u.2.2.1] ++ wB cI cJ cO adB adA lf bs a u.2.2.2) (tyG cI cJ cZ cO) t) (va_A ([zAJ cJ adW 60 fw, zAJ cJ adU 33 fu, zAJ cJ adG 60 fg, zAI cI adN 6 fn] ++ wB cI cJ cO adB adA lf bs a T) sz)) 0 0 (va_A ([zAJ cJ adW 60 fw, zAJ cJ adU 33 fu, zAJ cJ adG 60 fg, zAI cI adN 6 fn] ++ wB cI cJ cO adB adA lf bs a T) sz) := by
  refine Met.ofW (cc := cL_step) (maxL := 18) (ret := (some .boolean)) (by decide) rfl ?_
  intro p e s m args below meth c s₁ B hml hv
  obtain ⟨rfl, hsz, hP, hK, hD0, hG⟩ := hv
  have hx := B.exec
  have hb := B.bytes
  have hr := B.returns
  have hts := ht_of B.pre
  have hown : s.vm.findClass RL = some m.cls := findClass_of_methodNamed B.named
  have hlocks := B.notSynchronized
  subst hsz
  have hD := hD0.self (sz := s.heap.size)
  generalize hAe : va_A ([zAJ cJ adW 60 fw, zAJ cJ adU 33 fu, zAJ cJ adG 60 fg, zAI cI adN 6 fn] ++ wB cI cJ cO adB adA lf bs a T) s.heap.size = A at hD ⊢
  have hA : ∀ q : Nat, s.heap.size ≤ q → A q := fun q h => by rw [← hAe]; exact Or.inr h
  have hS : va_S A s.heap s.heap [] := va_S.rf
  have hl := lv_entry ([.ref adB, .int (3 : Int32), .int (nI X), .int (nI Y), .ref adW, .ref adG, .ref adN]) (n := 18) (Nat.le_of_ble_eq_true rfl)
  rw [lg_entry_eq]
  generalize (lg_sl ([.ref adB, .int (3 : Int32), .int (nI X), .int (nI Y), .ref adW, .ref adG, .ref adN]) ++ List.replicate (18 - (lg_sl ([.ref adB, .int (3 : Int32), .int (nI X), .int (nI Y), .ref adW, .ref adG, .ref adN])).length) Slot.unset).toArray = ls at hl ⊢
  have hl : lv_has ls 18 [(0, .ref adB), (1, .int (3 : Int32)), (2, .int (nI X)), (3, .int (nI Y)), (4, .ref adW), (5, .ref adG), (6, .ref adN)] := hl
  refine hh_name (fun Q hQ => ?_)
  have K := fx_mk hx hb hml hown hts hG hK hlf
  have hcs : (0 : Nat) ≤ 0 ∧ (0 : Nat) ≤ 0 := ⟨Nat.zero_le _, Nat.zero_le _⟩
  refine lv_iload_n hx hb dL_step_0 rfl (lv_at hl 2 rfl) ?_
  refine lv_iconst (v := 3) hx hb dL_step_1 (by decide) ?_
  refine lv_irem hx hb dL_step_2 (by decide) ?_
  refine hh_seti (y := (nI ((X % 3)))) (lwMod (a := X) (b := 3) (by omega) (by decide) (by decide) rfl) ?_
  refine hh_seti (y := nI k) (by rw [hXk]) ?_
  refine lv_istore (lv' := [(7, .int (nI k)), (0, .ref adB), (1, .int (3 : Int32)), (2, .int (nI X)), (3, .int (nI Y)), (4, .ref adW), (5, .ref adG), (6, .ref adN)]) hx hb dL_step_3 hl (by decide) rfl (fun ls hl => ?_)
  refine lv_bipush (v := 20) hx hb dL_step_5 (by decide) ?_
  refine lv_iload hx hb dL_step_7 (lv_at hl 0 rfl) ?_
  refine lv_imul hx hb dL_step_9 ?_
  refine hh_seti (y := (nI (20 * k))) (lwMul (a := 20) (b := k) (by omega)) ?_
  refine lv_istore (lv' := [(8, .int (nI (20 * k))), (7, .int (nI k)), (0, .ref adB), (1, .int (3 : Int32)), (2, .int (nI X)), (3, .int (nI Y)), (4, .ref adW), (5, .ref adG), (6, .ref adN)]) hx hb dL_step_10 hl (by decide) rfl (fun ls hl => ?_)
  refine lv_iload_n hx hb dL_step_12 rfl (lv_at hl 3 rfl) ?_
  refine lv_tableIn (off := 334) (tgt := 347) hx hb dL_step_13 (by decide) (by decide) rfl (by decide) ?_
  refine lv_aload hx hb dL_step_347 (lv_at hl 8 rfl) ?_
  refine lv_iload hx hb dL_step_349 (lv_at hl 1 rfl) ?_
  refine lr_il hx hb hK hP 3 0 (e0 := k) rfl rfl (by omega) (by decide) dL_step_351 ?_
  refine lv_iconst (v := 5) hx hb dL_step_352 (by decide) ?_
  refine lv_icmp_ne (tgt := 358) hx hb dL_step_353 (by decide) (fun hn5 => ?_) (fun hn5 => ?_)
  · skip
    obtain ⟨j, hj, hsn, hfn, hgm⟩ := ap_at hR hn5
    refine lv_bipush (v := 20) hx hb dL_step_358 (by decide) ?_
    refine lv_iload hx hb dL_step_360 (lv_at hl 1 rfl) ?_
    refine lv_imul hx hb dL_step_362 ?_
    refine hh_seti (y := (nI (20 * k))) (lwMul (a := 20) (b := k) (by omega)) ?_
    refine lv_iconst (v := 4) hx hb dL_step_363 (by decide) ?_
    refine lv_aload hx hb dL_step_364 (lv_at hl 8 rfl) ?_
    refine lv_iload hx hb dL_step_366 (lv_at hl 1 rfl) ?_
    refine lr_il hx hb hK hP 3 0 (e0 := k) rfl rfl (by omega) (by decide) dL_step_368 ?_
    refine hh_seti (y := nI j) (hfn.symm) ?_
    refine lv_imul hx hb dL_step_369 ?_
    refine hh_seti (y := (nI (4 * j))) (lwMul (a := 4) (b := j) (by omega)) ?_
    refine lv_iadd hx hb dL_step_370 ?_
    refine hh_seti (y := (nI (4 * j + 20 * k))) (lwAdd (a := 20 * k) (b := 4 * j) (by omega)) ?_
    refine lv_istore (lv' := [(11, .int (nI (4 * j + 20 * k))), (8, .int (nI (20 * k))), (7, .int (nI k)), (0, .ref adB), (1, .int (3 : Int32)), (2, .int (nI X)), (3, .int (nI Y)), (4, .ref adW), (5, .ref adG), (6, .ref adN)]) hx hb dL_step_371 hl (by decide) rfl (fun ls hl => ?_)
    refine lv_aload hx hb dL_step_373 (lv_at hl 8 rfl) ?_
    refine lv_iload hx hb dL_step_375 (lv_at hl 0 rfl) ?_
    refine lv_aload hx hb dL_step_377 (lv_at hl 9 rfl) ?_
    refine lv_iload hx hb dL_step_379 (lv_at hl 2 rfl) ?_
    refine lr_il hx hb hK hP 3 0 (e0 := k) rfl rfl (by omega) (by decide) dL_step_381 ?_
    refine hh_seti (y := nI j) (hfn.symm) ?_
    refine lv_if_ne (tgt := 391) hx hb dL_step_382 (by decide) (fun hj0 => ?_) (fun hj0 => ?_)
    · skip
      have hj1 : 1 ≤ j := Nat.pos_of_ne_zero (fun q => hj0 (by rw [q]; rfl))
      obtain ⟨z1, z2, z3⟩ := hgm (j - 1) (by omega)
      refine lv_aload hx hb dL_step_391 (lv_at hl 8 rfl) ?_
      refine lv_iload hx hb dL_step_393 (lv_at hl 0 rfl) ?_
      refine lv_iconst (v := 4) hx hb dL_step_395 (by decide) ?_
      refine lv_isub hx hb dL_step_396 ?_
      refine hh_seti (y := (nI (4 * (j - 1) + 20 * k))) (lwSub (a := 4 * j + 20 * k) (b := 4) (by omega)) ?_
      refine lr_ll hx hb hK hP 2 1 (e0 := 4 * (j - 1) + 20 * k) rfl rfl (by omega) (by decide) dL_step_397 ?_
      refine lv_lconst (v := 1) hx hb dL_step_398 (by decide) ?_
      refine lv_ladd hx hb dL_step_399 ?_
      refine lv_iload_n hx hb dL_step_400 rfl (lv_at hl 6 rfl) ?_
      refine lv_sipush (v := 9000) hx hb dL_step_401 (by decide) ?_
      refine lv_irem hx hb dL_step_404 (by decide) ?_
      refine hh_seti (y := (nI ((Y % 9000)))) (lwMod (a := Y) (b := 9000) (by omega) (by decide) (by decide) rfl) ?_
      refine lv_i2l hx hb dL_step_405 rfl ?_
      refine lv_ladd hx hb dL_step_406 ?_
      refine hh_setl (y := ((yl_gm (T k) (j - 1) + 1) + nI (Y % 9000)).toInt64) (ap_w1 (n := Y % 9000) (by omega) z1 ⟨z2, by omega⟩) ?_
      refine lr_ls hx hb hK hP hD hS 2 1 (e0 := 4 * j + 20 * k) rfl rfl (by omega) (by decide) dL_step_407 (w1 := ([zAJ cJ adW 60 fw, zAJ cJ adU 33 fu, zAJ cJ adG 60 (vp_updL fg (4 * j + 20 * k) (((yl_gm (T k) (j - 1) + 1) + nI (Y % 9000)).toInt64)), zAI cI adN 6 fn] ++ wB cI cJ cO adB adA lf bs a T)) rfl (fun H locs hP hD hS => ?_)
      refine lv_aload hx hb dL_step_408 (lv_at hl 8 rfl) ?_
      refine lv_iload hx hb dL_step_410 (lv_at hl 0 rfl) ?_
      refine lv_iconst (v := 1) hx hb dL_step_412 (by decide) ?_
      refine lv_iadd hx hb dL_step_413 ?_
      refine hh_seti (y := (nI (4 * j + 20 * k + 1))) (lwAdd (a := 4 * j + 20 * k) (b := 1) (by omega)) ?_
      refine lv_iload_n hx hb dL_step_414 rfl (lv_at hl 5 rfl) ?_
      refine lv_sipush (v := 4001) hx hb dL_step_415 (by decide) ?_
      refine lv_irem hx hb dL_step_418 (by decide) ?_
      refine hh_seti (y := (nI ((X % 4001)))) (lwMod (a := X) (b := 4001) (by omega) (by decide) (by decide) rfl) ?_
      refine lv_sipush (v := 1000) hx hb dL_step_419 (by decide) ?_
      refine lv_isub hx hb dL_step_422 ?_
      refine lv_i2l hx hb dL_step_423 rfl ?_
      refine lr_ls hx hb hK hP hD hS 2 1 (e0 := 4 * j + 20 * k + 1) rfl rfl (by omega) (by decide) dL_step_424 (w1 := ([zAJ cJ adW 60 fw, zAJ cJ adU 33 fu, zAJ cJ adG 60 (vp_updL (vp_updL fg (4 * j + 20 * k) (((yl_gm (T k) (j - 1) + 1) + nI (Y % 9000)).toInt64)) (4 * j + 20 * k + 1) (((nI ((X % 4001))) - (1000 : Int32)).toInt64)), zAI cI adN 6 fn] ++ wB cI cJ cO adB adA lf bs a T)) rfl (fun H locs hP hD hS => ?_)
      refine lv_aload hx hb dL_step_425 (lv_at hl 8 rfl) ?_
      refine lv_iload hx hb dL_step_427 (lv_at hl 0 rfl) ?_
      refine lv_iconst (v := 2) hx hb dL_step_429 (by decide) ?_
      refine lv_iadd hx hb dL_step_430 ?_
      refine hh_seti (y := (nI (4 * j + 20 * k + 2))) (lwAdd (a := 4 * j + 20 * k) (b := 2) (by omega)) ?_
      refine lv_iload_n hx hb dL_step_431 rfl (lv_at hl 5 rfl) ?_
      refine lv_bipush (v := 9) hx hb dL_step_432 (by decide) ?_
      refine lv_idiv hx hb dL_step_434 (by decide) ?_
      refine hh_seti (y := (nI ((X / 9)))) (lwDiv (a := X) (b := 9) (by omega) (by decide) (by decide) rfl) ?_
      refine lv_sipush (v := 500) hx hb dL_step_435 (by decide) ?_
      refine lv_irem hx hb dL_step_438 (by decide) ?_
      refine hh_seti (y := (nI ((((X / 9)) % 500)))) (lwMod (a := (X / 9)) (b := 500) (by omega) (by decide) (by decide) rfl) ?_
      refine lv_i2l hx hb dL_step_439 rfl ?_
      refine lr_ls hx hb hK hP hD hS 2 1 (e0 := 4 * j + 20 * k + 2) rfl rfl (by omega) (by decide) dL_step_440 (w1 := ([zAJ cJ adW 60 fw, zAJ cJ adU 33 fu, zAJ cJ adG 60 (vp_updL (vp_updL (vp_updL fg (4 * j + 20 * k) (((yl_gm (T k) (j - 1) + 1) + nI (Y % 9000)).toInt64)) (4 * j + 20 * k + 1) (((nI ((X % 4001))) - (1000 : Int32)).toInt64)) (4 * j + 20 * k + 2) ((nI ((((X / 9)) % 500))).toInt64)), zAI cI adN 6 fn] ++ wB cI cJ cO adB adA lf bs a T)) rfl (fun H locs hP hD hS => ?_)
      refine lv_aload hx hb dL_step_441 (lv_at hl 8 rfl) ?_
      refine lv_iload hx hb dL_step_443 (lv_at hl 0 rfl) ?_
      refine lv_iconst (v := 3) hx hb dL_step_445 (by decide) ?_
      refine lv_iadd hx hb dL_step_446 ?_
      refine hh_seti (y := (nI (4 * j + 20 * k + 3))) (lwAdd (a := 4 * j + 20 * k) (b := 3) (by omega)) ?_
      refine lv_iload_n hx hb dL_step_447 rfl (lv_at hl 6 rfl) ?_
      refine lv_bipush (v := 9) hx hb dL_step_448 (by decide) ?_
      refine lv_idiv hx hb dL_step_450 (by decide) ?_
      refine hh_seti (y := (nI ((Y / 9)))) (lwDiv (a := Y) (b := 9) (by omega) (by decide) (by decide) rfl) ?_
      refine lv_sipush (v := 3001) hx hb dL_step_451 (by decide) ?_
      refine lv_irem hx hb dL_step_454 (by decide) ?_
      refine hh_seti (y := (nI ((((Y / 9)) % 3001)))) (lwMod (a := (Y / 9)) (b := 3001) (by omega) (by decide) (by decide) rfl) ?_
      refine lv_sipush (v := 1500) hx hb dL_step_455 (by decide) ?_
      refine lv_isub hx hb dL_step_458 ?_
      refine lv_i2l hx hb dL_step_459 rfl ?_
      refine lr_ls hx hb hK hP hD hS 2 1 (e0 := 4 * j + 20 * k + 3) rfl rfl (by omega) (by decide) dL_step_460 (w1 := ([zAJ cJ adW 60 fw, zAJ cJ adU 33 fu, zAJ cJ adG 60 (vp_updL (vp_updL (vp_updL (vp_updL fg (4 * j + 20 * k) (((yl_gm (T k) (j - 1) + 1) + nI (Y % 9000)).toInt64)) (4 * j + 20 * k + 1) (((nI ((X % 4001))) - (1000 : Int32)).toInt64)) (4 * j + 20 * k + 2) ((nI ((((X / 9)) % 500))).toInt64)) (4 * j + 20 * k + 3) (((nI ((((Y / 9)) % 3001))) - (1500 : Int32)).toInt64)), zAI cI adN 6 fn] ++ wB cI cJ cO adB adA lf bs a T)) rfl (fun H locs hP hD hS => ?_)
      refine lv_aload hx hb dL_step_461 (lv_at hl 9 rfl) ?_
      refine lv_iload hx hb dL_step_463 (lv_at hl 2 rfl) ?_
      refine lv_dup2_11 hx hb dL_step_465 rfl rfl ?_
      refine lr_il hx hb hK hP 3 0 (e0 := k) rfl rfl (by omega) (by decide) dL_step_466 ?_
      refine hh_seti (y := nI j) (hfn.symm) ?_
      refine lv_iconst (v := 1) hx hb dL_step_467 (by decide) ?_
      refine lv_iadd hx hb dL_step_468 ?_
      refine hh_seti (y := (nI (j + 1))) (lwAdd (a := j) (b := 1) (by omega)) ?_
      refine lr_is hx hb hK hP hD hS 3 0 (e0 := k) rfl rfl (by omega) (by decide) dL_step_469 (w1 := ([zAJ cJ adW 60 fw, zAJ cJ adU 33 fu, zAJ cJ adG 60 (vp_updL (vp_updL (vp_updL (vp_updL fg (4 * j + 20 * k) (((yl_gm (T k) (j - 1) + 1) + nI (Y % 9000)).toInt64)) (4 * j + 20 * k + 1) (((nI ((X % 4001))) - (1000 : Int32)).toInt64)) (4 * j + 20 * k + 2) ((nI ((((X / 9)) % 500))).toInt64)) (4 * j + 20 * k + 3) (((nI ((((Y / 9)) % 3001))) - (1500 : Int32)).toInt64)), zAI cI adN 6 (upd fn (k) (nI (j + 1)))] ++ wB cI cJ cO adB adA lf bs a T)) rfl (fun H locs hP hD hS => ?_)
      refine lv_aload hx hb dL_step_470 (lv_at hl 7 rfl) ?_
      refine lv_iload hx hb dL_step_472 (lv_at hl 1 rfl) ?_
      refine lv_bipush (v := 14) hx hb dL_step_474 (by decide) ?_
      refine lv_iadd hx hb dL_step_476 ?_
      refine hh_seti (y := (nI (20 * k + 14))) (lwAdd (a := 20 * k) (b := 14) (by omega)) ?_
      refine lv_lconst (v := 0) hx hb dL_step_477 (by decide) ?_
      refine lr_ls hx hb hK hP hD hS 0 1 (e0 := 20 * k + 14) rfl rfl (by omega) (by decide) dL_step_478 (w1 := ([zAJ cJ adW 60 (vp_updL fw (20 * k + 14) (0 : Int64)), zAJ cJ adU 33 fu, zAJ cJ adG 60 (vp_updL (vp_updL (vp_updL (vp_updL fg (4 * j + 20 * k) (((yl_gm (T k) (j - 1) + 1) + nI (Y % 9000)).toInt64)) (4 * j + 20 * k + 1) (((nI ((X % 4001))) - (1000 : Int32)).toInt64)) (4 * j + 20 * k + 2) ((nI ((((X / 9)) % 500))).toInt64)) (4 * j + 20 * k + 3) (((nI ((((Y / 9)) % 3001))) - (1500 : Int32)).toInt64)), zAI cI adN 6 (upd fn (k) (nI (j + 1)))] ++ wB cI cJ cO adB adA lf bs a T)) rfl (fun H locs hP hD hS => ?_)
      refine lv_aload_n hx hb dL_step_479 rfl (lv_at hl 3 rfl) ?_
      refine lv_iload hx hb dL_step_480 (lv_at hl 2 rfl) ?_
      refine lv_aload hx hb dL_step_482 (lv_at hl 8 rfl) ?_
      refine lv_iload hx hb dL_step_484 (lv_at hl 0 rfl) ?_
      refine lr_ll hx hb hK hP 2 1 (e0 := 4 * j + 20 * k) rfl rfl (by omega) (by decide) dL_step_486 ?_
      refine hh_setl (y := ((yl_gm (T k) (j - 1) + 1) + nI (Y % 9000)).toInt64) (((ul_ne _ _ (by omega)).trans ((ul_ne _ _ (by omega)).trans ((ul_ne _ _ (by omega)).trans (ul_eq _ _ _)))).symm) ?_
      refine lv_l2i hx hb dL_step_487 rfl ?_
      refine hh_seti (y := ((yl_gm (T k) (j - 1) + 1) + nI (Y % 9000))) (t3264 _).symm ?_
      refine lv_aload hx hb dL_step_488 (lv_at hl 8 rfl) ?_
      refine lv_iload hx hb dL_step_490 (lv_at hl 0 rfl) ?_
      refine lv_iconst (v := 1) hx hb dL_step_492 (by decide) ?_
      refine lv_iadd hx hb dL_step_493 ?_
      refine hh_seti (y := (nI (4 * j + 20 * k + 1))) (lwAdd (a := 4 * j + 20 * k) (b := 1) (by omega)) ?_
      refine lr_ll hx hb hK hP 2 1 (e0 := 4 * j + 20 * k + 1) rfl rfl (by omega) (by decide) dL_step_494 ?_
      refine hh_setl (y := ((nI ((X % 4001))) - (1000 : Int32)).toInt64) (((ul_ne _ _ (by omega)).trans ((ul_ne _ _ (by omega)).trans (ul_eq _ _ _))).symm) ?_
      refine lv_l2i hx hb dL_step_495 rfl ?_
      refine hh_seti (y := ((nI ((X % 4001))) - (1000 : Int32))) (t3264 _).symm ?_
      refine lv_aload hx hb dL_step_496 (lv_at hl 8 rfl) ?_
      refine lv_iload hx hb dL_step_498 (lv_at hl 0 rfl) ?_
      refine lv_iconst (v := 2) hx hb dL_step_500 (by decide) ?_
      refine lv_iadd hx hb dL_step_501 ?_
      refine hh_seti (y := (nI (4 * j + 20 * k + 2))) (lwAdd (a := 4 * j + 20 * k) (b := 2) (by omega)) ?_
      refine lr_ll hx hb hK hP 2 1 (e0 := 4 * j + 20 * k + 2) rfl rfl (by omega) (by decide) dL_step_502 ?_
      refine hh_setl (y := (nI ((((X / 9)) % 500))).toInt64) (((ul_ne _ _ (by omega)).trans (ul_eq _ _ _)).symm) ?_
      refine lv_l2i hx hb dL_step_503 rfl ?_
      refine hh_seti (y := (nI ((((X / 9)) % 500)))) (t3264 _).symm ?_
      refine lv_aload hx hb dL_step_504 (lv_at hl 8 rfl) ?_
      refine lv_iload hx hb dL_step_506 (lv_at hl 0 rfl) ?_
      refine lv_iconst (v := 3) hx hb dL_step_508 (by decide) ?_
      refine lv_iadd hx hb dL_step_509 ?_
      refine hh_seti (y := (nI (4 * j + 20 * k + 3))) (lwAdd (a := 4 * j + 20 * k) (b := 3) (by omega)) ?_
      refine lr_ll hx hb hK hP 2 1 (e0 := 4 * j + 20 * k + 3) rfl rfl (by omega) (by decide) dL_step_510 ?_
      refine hh_setl (y := ((nI ((((Y / 9)) % 3001))) - (1500 : Int32)).toInt64) ((ul_eq _ _ _).symm) ?_
      refine lv_l2i hx hb dL_step_511 rfl ?_
      refine hh_seti (y := ((nI ((((Y / 9)) % 3001))) - (1500 : Int32))) (t3264 _).symm ?_
      refine s_addPoint (k := k) (mev := ((yl_gm (T k) (j - 1) + 1) + nI (Y % 9000))) (np := ((nI ((X % 4001))) - (1000 : Int32))) (ni := (nI ((((X / 9)) % 500)))) (nd := ((nI ((((Y / 9)) % 3001))) - (1500 : Int32))) K hk (bd_lo (M := -1000000) (ap_m1 (n := Y % 9000) (by omega) ⟨z2, by omega⟩) (by decide) (by omega)) (bd_hi (M := 1000000) (ap_m1 (n := Y % 9000) (by omega) ⟨z2, by omega⟩) (by decide) (by omega)) (bd_lo (M := -20000) (bd_s (n := (X % 4001)) (c := 1000) (C := 1000) rfl (by omega) (by omega)) (by decide) (by omega)) (bd_hi (M := 20000) (bd_s (n := (X % 4001)) (c := 1000) (C := 1000) rfl (by omega) (by omega)) (by decide) (by omega)) (bd_lo (M := -5000) (nI_i (n := (((X / 9)) % 500)) (by omega)) (by decide) (by omega)) (bd_hi (M := 5000) (nI_i (n := (((X / 9)) % 500)) (by omega)) (by decide) (by omega)) (bd_lo (M := -50000) (bd_s (n := (((Y / 9)) % 3001)) (c := 1500) (C := 1500) rfl (by omega) (by omega)) (by decide) (by omega)) (bd_hi (M := 50000) (bd_s (n := (((Y / 9)) % 3001)) (c := 1500) (C := 1500) rfl (by omega) (by omega)) (by decide) (by omega)) (ap_q12 hsn hj (fun q hq => by rw [(ap_m1 (n := Y % 9000) (by omega) ⟨z2, by omega⟩), show q = j - 1 by omega]; omega)) (ap_q13 hsn hj) ⟨Nat.le_of_ble_eq_true rfl, Nat.le_of_ble_eq_true rfl⟩ hcs (Nat.le_of_ble_eq_true rfl) hP hD hS hA hl.1 dL_step_512 (fun H locs hP hD hS => ?_)
      refine lv_aload hx hb dL_step_515 (lv_at hl 9 rfl) ?_
      refine lv_iload hx hb dL_step_517 (lv_at hl 2 rfl) ?_
      refine lr_il hx hb hK hP 3 0 (e0 := k) rfl rfl (by omega) (by decide) dL_step_519 ?_
      refine hh_seti (y := (nI (j + 1))) ((u_eq _ _ _).symm) ?_
      refine lv_icmp_ne (tgt := 527) hx hb dL_step_520 (by decide) (fun h9 => absurd (ap_r hsn hj) h9) (fun _ => ?_)
      refine lv_iconst (v := 1) hx hb dL_step_523 (by decide) ?_
      refine lv_goto (tgt := 528) hx hb dL_step_524 (by decide) ?_
      exact hh_retS (w := fun (u : (Nat → Int64) × (Nat → Int64) × (Nat → Int32) × (Nat → LT)) => ([zAJ cJ adW 60 u.1, zAJ cJ adU 33 fu, zAJ cJ adG 60 u.2.1, zAI cI adN 6 u.2.2.1] ++ wB cI cJ cO adB adA lf bs a u.2.2.2)) (((vp_updL fw (20 * k + 14) (0 : Int64)), (vp_updL (vp_updL (vp_updL (vp_updL fg (4 * j + 20 * k) (((yl_gm (T k) (j - 1) + 1) + nI (Y % 9000)).toInt64)) (4 * j + 20 * k + 1) (((nI ((X % 4001))) - (1000 : Int32)).toInt64)) (4 * j + 20 * k + 2) ((nI ((((X / 9)) % 500))).toInt64)) (4 * j + 20 * k + 3) (((nI ((((Y / 9)) % 3001))) - (1500 : Int32)).toInt64)), (upd fn (k) (nI (j + 1))), (upT T k (lu_addPoint (T k) ((yl_gm (T k) (j - 1) + 1) + nI (Y % 9000)) ((nI ((X % 4001))) - (1000 : Int32)) (nI ((((X / 9)) % 500))) ((nI ((((Y / 9)) % 3001))) - (1500 : Int32)))))) hQ (⟨rfl, SP_mk (ap_RP hR h15 hsn hj (Gb_mk (bd_s (n := (X % 4001)) (c := 1000) (C := 1000) rfl (by omega) (by omega)) (nI_i (n := (((X / 9)) % 500)) (by omega)) (bd_s (n := (((Y / 9)) % 3001)) (c := 1500) (C := 1500) rfl (by omega) (by omega)) (by omega)) (by rw [(ap_m1 (n := Y % 9000) (by omega) ⟨z2, by omega⟩)]; omega) (fun q hq => by rw [(ap_m1 (n := Y % 9000) (by omega) ⟨z2, by omega⟩), show q = j - 1 by omega]; omega)) (by intro i hi; (try dsimp only); repeat rw [ul_ne _ _ (by omega)]) (by intro i hi; (try dsimp only); repeat rw [ul_ne _ _ (by omega)]) (by intro j hj hj3; (try dsimp only); repeat rw [u_ne _ _ (by omega)])⟩) (rfl) hx hb hr hlocks hP hK hD hS dL_step_528
    · skip
      have hj1 : j = 0 := (nI_eq (b := 0) (by omega) (by omega)).mp hj0
      refine lv_ldc2 (v := -20000) hx hb hown (hts _ wd_2_208) dL_step_385 ?_
      refine lv_goto (tgt := 398) hx hb dL_step_388 (by decide) ?_
      refine lv_lconst (v := 1) hx hb dL_step_398 (by decide) ?_
      refine lv_ladd hx hb dL_step_399 ?_
      refine lv_iload_n hx hb dL_step_400 rfl (lv_at hl 6 rfl) ?_
      refine lv_sipush (v := 9000) hx hb dL_step_401 (by decide) ?_
      refine lv_irem hx hb dL_step_404 (by decide) ?_
      refine hh_seti (y := (nI ((Y % 9000)))) (lwMod (a := Y) (b := 9000) (by omega) (by decide) (by decide) rfl) ?_
      refine lv_i2l hx hb dL_step_405 rfl ?_
      refine lv_ladd hx hb dL_step_406 ?_
      refine hh_setl (y := (((-20000 : Int32) + 1) + nI (Y % 9000)).toInt64) (ap_w0 (n := Y % 9000) (by omega)) ?_
      refine lr_ls hx hb hK hP hD hS 2 1 (e0 := 4 * j + 20 * k) rfl rfl (by omega) (by decide) dL_step_407 (w1 := ([zAJ cJ adW 60 fw, zAJ cJ adU 33 fu, zAJ cJ adG 60 (vp_updL fg (4 * j + 20 * k) ((((-20000 : Int32) + 1) + nI (Y % 9000)).toInt64)), zAI cI adN 6 fn] ++ wB cI cJ cO adB adA lf bs a T)) rfl (fun H locs hP hD hS => ?_)
      refine lv_aload hx hb dL_step_408 (lv_at hl 8 rfl) ?_
      refine lv_iload hx hb dL_step_410 (lv_at hl 0 rfl) ?_
      refine lv_iconst (v := 1) hx hb dL_step_412 (by decide) ?_
      refine lv_iadd hx hb dL_step_413 ?_
      refine hh_seti (y := (nI (4 * j + 20 * k + 1))) (lwAdd (a := 4 * j + 20 * k) (b := 1) (by omega)) ?_
      refine lv_iload_n hx hb dL_step_414 rfl (lv_at hl 5 rfl) ?_
      refine lv_sipush (v := 4001) hx hb dL_step_415 (by decide) ?_
      refine lv_irem hx hb dL_step_418 (by decide) ?_
      refine hh_seti (y := (nI ((X % 4001)))) (lwMod (a := X) (b := 4001) (by omega) (by decide) (by decide) rfl) ?_
      refine lv_sipush (v := 1000) hx hb dL_step_419 (by decide) ?_
      refine lv_isub hx hb dL_step_422 ?_
      refine lv_i2l hx hb dL_step_423 rfl ?_
      refine lr_ls hx hb hK hP hD hS 2 1 (e0 := 4 * j + 20 * k + 1) rfl rfl (by omega) (by decide) dL_step_424 (w1 := ([zAJ cJ adW 60 fw, zAJ cJ adU 33 fu, zAJ cJ adG 60 (vp_updL (vp_updL fg (4 * j + 20 * k) ((((-20000 : Int32) + 1) + nI (Y % 9000)).toInt64)) (4 * j + 20 * k + 1) (((nI ((X % 4001))) - (1000 : Int32)).toInt64)), zAI cI adN 6 fn] ++ wB cI cJ cO adB adA lf bs a T)) rfl (fun H locs hP hD hS => ?_)
      refine lv_aload hx hb dL_step_425 (lv_at hl 8 rfl) ?_
      refine lv_iload hx hb dL_step_427 (lv_at hl 0 rfl) ?_
      refine lv_iconst (v := 2) hx hb dL_step_429 (by decide) ?_
      refine lv_iadd hx hb dL_step_430 ?_
      refine hh_seti (y := (nI (4 * j + 20 * k + 2))) (lwAdd (a := 4 * j + 20 * k) (b := 2) (by omega)) ?_
      refine lv_iload_n hx hb dL_step_431 rfl (lv_at hl 5 rfl) ?_
      refine lv_bipush (v := 9) hx hb dL_step_432 (by decide) ?_
      refine lv_idiv hx hb dL_step_434 (by decide) ?_
      refine hh_seti (y := (nI ((X / 9)))) (lwDiv (a := X) (b := 9) (by omega) (by decide) (by decide) rfl) ?_
      refine lv_sipush (v := 500) hx hb dL_step_435 (by decide) ?_
      refine lv_irem hx hb dL_step_438 (by decide) ?_
      refine hh_seti (y := (nI ((((X / 9)) % 500)))) (lwMod (a := (X / 9)) (b := 500) (by omega) (by decide) (by decide) rfl) ?_
      refine lv_i2l hx hb dL_step_439 rfl ?_
      refine lr_ls hx hb hK hP hD hS 2 1 (e0 := 4 * j + 20 * k + 2) rfl rfl (by omega) (by decide) dL_step_440 (w1 := ([zAJ cJ adW 60 fw, zAJ cJ adU 33 fu, zAJ cJ adG 60 (vp_updL (vp_updL (vp_updL fg (4 * j + 20 * k) ((((-20000 : Int32) + 1) + nI (Y % 9000)).toInt64)) (4 * j + 20 * k + 1) (((nI ((X % 4001))) - (1000 : Int32)).toInt64)) (4 * j + 20 * k + 2) ((nI ((((X / 9)) % 500))).toInt64)), zAI cI adN 6 fn] ++ wB cI cJ cO adB adA lf bs a T)) rfl (fun H locs hP hD hS => ?_)
      refine lv_aload hx hb dL_step_441 (lv_at hl 8 rfl) ?_
      refine lv_iload hx hb dL_step_443 (lv_at hl 0 rfl) ?_
      refine lv_iconst (v := 3) hx hb dL_step_445 (by decide) ?_
      refine lv_iadd hx hb dL_step_446 ?_
      refine hh_seti (y := (nI (4 * j + 20 * k + 3))) (lwAdd (a := 4 * j + 20 * k) (b := 3) (by omega)) ?_
      refine lv_iload_n hx hb dL_step_447 rfl (lv_at hl 6 rfl) ?_
      refine lv_bipush (v := 9) hx hb dL_step_448 (by decide) ?_
      refine lv_idiv hx hb dL_step_450 (by decide) ?_
      refine hh_seti (y := (nI ((Y / 9)))) (lwDiv (a := Y) (b := 9) (by omega) (by decide) (by decide) rfl) ?_
      refine lv_sipush (v := 3001) hx hb dL_step_451 (by decide) ?_
      refine lv_irem hx hb dL_step_454 (by decide) ?_
      refine hh_seti (y := (nI ((((Y / 9)) % 3001)))) (lwMod (a := (Y / 9)) (b := 3001) (by omega) (by decide) (by decide) rfl) ?_
      refine lv_sipush (v := 1500) hx hb dL_step_455 (by decide) ?_
      refine lv_isub hx hb dL_step_458 ?_
      refine lv_i2l hx hb dL_step_459 rfl ?_
      refine lr_ls hx hb hK hP hD hS 2 1 (e0 := 4 * j + 20 * k + 3) rfl rfl (by omega) (by decide) dL_step_460 (w1 := ([zAJ cJ adW 60 fw, zAJ cJ adU 33 fu, zAJ cJ adG 60 (vp_updL (vp_updL (vp_updL (vp_updL fg (4 * j + 20 * k) ((((-20000 : Int32) + 1) + nI (Y % 9000)).toInt64)) (4 * j + 20 * k + 1) (((nI ((X % 4001))) - (1000 : Int32)).toInt64)) (4 * j + 20 * k + 2) ((nI ((((X / 9)) % 500))).toInt64)) (4 * j + 20 * k + 3) (((nI ((((Y / 9)) % 3001))) - (1500 : Int32)).toInt64)), zAI cI adN 6 fn] ++ wB cI cJ cO adB adA lf bs a T)) rfl (fun H locs hP hD hS => ?_)
      refine lv_aload hx hb dL_step_461 (lv_at hl 9 rfl) ?_
      refine lv_iload hx hb dL_step_463 (lv_at hl 2 rfl) ?_
      refine lv_dup2_11 hx hb dL_step_465 rfl rfl ?_
      refine lr_il hx hb hK hP 3 0 (e0 := k) rfl rfl (by omega) (by decide) dL_step_466 ?_
      refine hh_seti (y := nI j) (hfn.symm) ?_
      refine lv_iconst (v := 1) hx hb dL_step_467 (by decide) ?_
      refine lv_iadd hx hb dL_step_468 ?_
      refine hh_seti (y := (nI (j + 1))) (lwAdd (a := j) (b := 1) (by omega)) ?_
      refine lr_is hx hb hK hP hD hS 3 0 (e0 := k) rfl rfl (by omega) (by decide) dL_step_469 (w1 := ([zAJ cJ adW 60 fw, zAJ cJ adU 33 fu, zAJ cJ adG 60 (vp_updL (vp_updL (vp_updL (vp_updL fg (4 * j + 20 * k) ((((-20000 : Int32) + 1) + nI (Y % 9000)).toInt64)) (4 * j + 20 * k + 1) (((nI ((X % 4001))) - (1000 : Int32)).toInt64)) (4 * j + 20 * k + 2) ((nI ((((X / 9)) % 500))).toInt64)) (4 * j + 20 * k + 3) (((nI ((((Y / 9)) % 3001))) - (1500 : Int32)).toInt64)), zAI cI adN 6 (upd fn (k) (nI (j + 1)))] ++ wB cI cJ cO adB adA lf bs a T)) rfl (fun H locs hP hD hS => ?_)
      refine lv_aload hx hb dL_step_470 (lv_at hl 7 rfl) ?_
      refine lv_iload hx hb dL_step_472 (lv_at hl 1 rfl) ?_
      refine lv_bipush (v := 14) hx hb dL_step_474 (by decide) ?_
      refine lv_iadd hx hb dL_step_476 ?_
      refine hh_seti (y := (nI (20 * k + 14))) (lwAdd (a := 20 * k) (b := 14) (by omega)) ?_
      refine lv_lconst (v := 0) hx hb dL_step_477 (by decide) ?_
      refine lr_ls hx hb hK hP hD hS 0 1 (e0 := 20 * k + 14) rfl rfl (by omega) (by decide) dL_step_478 (w1 := ([zAJ cJ adW 60 (vp_updL fw (20 * k + 14) (0 : Int64)), zAJ cJ adU 33 fu, zAJ cJ adG 60 (vp_updL (vp_updL (vp_updL (vp_updL fg (4 * j + 20 * k) ((((-20000 : Int32) + 1) + nI (Y % 9000)).toInt64)) (4 * j + 20 * k + 1) (((nI ((X % 4001))) - (1000 : Int32)).toInt64)) (4 * j + 20 * k + 2) ((nI ((((X / 9)) % 500))).toInt64)) (4 * j + 20 * k + 3) (((nI ((((Y / 9)) % 3001))) - (1500 : Int32)).toInt64)), zAI cI adN 6 (upd fn (k) (nI (j + 1)))] ++ wB cI cJ cO adB adA lf bs a T)) rfl (fun H locs hP hD hS => ?_)
      refine lv_aload_n hx hb dL_step_479 rfl (lv_at hl 3 rfl) ?_
      refine lv_iload hx hb dL_step_480 (lv_at hl 2 rfl) ?_
      refine lv_aload hx hb dL_step_482 (lv_at hl 8 rfl) ?_
      refine lv_iload hx hb dL_step_484 (lv_at hl 0 rfl) ?_
      refine lr_ll hx hb hK hP 2 1 (e0 := 4 * j + 20 * k) rfl rfl (by omega) (by decide) dL_step_486 ?_
      refine hh_setl (y := (((-20000 : Int32) + 1) + nI (Y % 9000)).toInt64) (((ul_ne _ _ (by omega)).trans ((ul_ne _ _ (by omega)).trans ((ul_ne _ _ (by omega)).trans (ul_eq _ _ _)))).symm) ?_
      refine lv_l2i hx hb dL_step_487 rfl ?_
      refine hh_seti (y := (((-20000 : Int32) + 1) + nI (Y % 9000))) (t3264 _).symm ?_
      refine lv_aload hx hb dL_step_488 (lv_at hl 8 rfl) ?_
      refine lv_iload hx hb dL_step_490 (lv_at hl 0 rfl) ?_
      refine lv_iconst (v := 1) hx hb dL_step_492 (by decide) ?_
      refine lv_iadd hx hb dL_step_493 ?_
      refine hh_seti (y := (nI (4 * j + 20 * k + 1))) (lwAdd (a := 4 * j + 20 * k) (b := 1) (by omega)) ?_
      refine lr_ll hx hb hK hP 2 1 (e0 := 4 * j + 20 * k + 1) rfl rfl (by omega) (by decide) dL_step_494 ?_
      refine hh_setl (y := ((nI ((X % 4001))) - (1000 : Int32)).toInt64) (((ul_ne _ _ (by omega)).trans ((ul_ne _ _ (by omega)).trans (ul_eq _ _ _))).symm) ?_
      refine lv_l2i hx hb dL_step_495 rfl ?_
      refine hh_seti (y := ((nI ((X % 4001))) - (1000 : Int32))) (t3264 _).symm ?_
      refine lv_aload hx hb dL_step_496 (lv_at hl 8 rfl) ?_
      refine lv_iload hx hb dL_step_498 (lv_at hl 0 rfl) ?_
      refine lv_iconst (v := 2) hx hb dL_step_500 (by decide) ?_
      refine lv_iadd hx hb dL_step_501 ?_
      refine hh_seti (y := (nI (4 * j + 20 * k + 2))) (lwAdd (a := 4 * j + 20 * k) (b := 2) (by omega)) ?_
      refine lr_ll hx hb hK hP 2 1 (e0 := 4 * j + 20 * k + 2) rfl rfl (by omega) (by decide) dL_step_502 ?_
      refine hh_setl (y := (nI ((((X / 9)) % 500))).toInt64) (((ul_ne _ _ (by omega)).trans (ul_eq _ _ _)).symm) ?_
      refine lv_l2i hx hb dL_step_503 rfl ?_
      refine hh_seti (y := (nI ((((X / 9)) % 500)))) (t3264 _).symm ?_
      refine lv_aload hx hb dL_step_504 (lv_at hl 8 rfl) ?_
      refine lv_iload hx hb dL_step_506 (lv_at hl 0 rfl) ?_
      refine lv_iconst (v := 3) hx hb dL_step_508 (by decide) ?_
      refine lv_iadd hx hb dL_step_509 ?_
      refine hh_seti (y := (nI (4 * j + 20 * k + 3))) (lwAdd (a := 4 * j + 20 * k) (b := 3) (by omega)) ?_
      refine lr_ll hx hb hK hP 2 1 (e0 := 4 * j + 20 * k + 3) rfl rfl (by omega) (by decide) dL_step_510 ?_
      refine hh_setl (y := ((nI ((((Y / 9)) % 3001))) - (1500 : Int32)).toInt64) ((ul_eq _ _ _).symm) ?_
      refine lv_l2i hx hb dL_step_511 rfl ?_
      refine hh_seti (y := ((nI ((((Y / 9)) % 3001))) - (1500 : Int32))) (t3264 _).symm ?_
      refine s_addPoint (k := k) (mev := (((-20000 : Int32) + 1) + nI (Y % 9000))) (np := ((nI ((X % 4001))) - (1000 : Int32))) (ni := (nI ((((X / 9)) % 500)))) (nd := ((nI ((((Y / 9)) % 3001))) - (1500 : Int32))) K hk (bd_lo (M := -1000000) (ap_m0 (n := Y % 9000) (by omega)) (by decide) (by omega)) (bd_hi (M := 1000000) (ap_m0 (n := Y % 9000) (by omega)) (by decide) (by omega)) (bd_lo (M := -20000) (bd_s (n := (X % 4001)) (c := 1000) (C := 1000) rfl (by omega) (by omega)) (by decide) (by omega)) (bd_hi (M := 20000) (bd_s (n := (X % 4001)) (c := 1000) (C := 1000) rfl (by omega) (by omega)) (by decide) (by omega)) (bd_lo (M := -5000) (nI_i (n := (((X / 9)) % 500)) (by omega)) (by decide) (by omega)) (bd_hi (M := 5000) (nI_i (n := (((X / 9)) % 500)) (by omega)) (by decide) (by omega)) (bd_lo (M := -50000) (bd_s (n := (((Y / 9)) % 3001)) (c := 1500) (C := 1500) rfl (by omega) (by omega)) (by decide) (by omega)) (bd_hi (M := 50000) (bd_s (n := (((Y / 9)) % 3001)) (c := 1500) (C := 1500) rfl (by omega) (by omega)) (by decide) (by omega)) (ap_q12 hsn hj (fun q hq => by omega)) (ap_q13 hsn hj) ⟨Nat.le_of_ble_eq_true rfl, Nat.le_of_ble_eq_true rfl⟩ hcs (Nat.le_of_ble_eq_true rfl) hP hD hS hA hl.1 dL_step_512 (fun H locs hP hD hS => ?_)
      refine lv_aload hx hb dL_step_515 (lv_at hl 9 rfl) ?_
      refine lv_iload hx hb dL_step_517 (lv_at hl 2 rfl) ?_
      refine lr_il hx hb hK hP 3 0 (e0 := k) rfl rfl (by omega) (by decide) dL_step_519 ?_
      refine hh_seti (y := (nI (j + 1))) ((u_eq _ _ _).symm) ?_
      refine lv_icmp_ne (tgt := 527) hx hb dL_step_520 (by decide) (fun h9 => absurd (ap_r hsn hj) h9) (fun _ => ?_)
      refine lv_iconst (v := 1) hx hb dL_step_523 (by decide) ?_
      refine lv_goto (tgt := 528) hx hb dL_step_524 (by decide) ?_
      exact hh_retS (w := fun (u : (Nat → Int64) × (Nat → Int64) × (Nat → Int32) × (Nat → LT)) => ([zAJ cJ adW 60 u.1, zAJ cJ adU 33 fu, zAJ cJ adG 60 u.2.1, zAI cI adN 6 u.2.2.1] ++ wB cI cJ cO adB adA lf bs a u.2.2.2)) (((vp_updL fw (20 * k + 14) (0 : Int64)), (vp_updL (vp_updL (vp_updL (vp_updL fg (4 * j + 20 * k) ((((-20000 : Int32) + 1) + nI (Y % 9000)).toInt64)) (4 * j + 20 * k + 1) (((nI ((X % 4001))) - (1000 : Int32)).toInt64)) (4 * j + 20 * k + 2) ((nI ((((X / 9)) % 500))).toInt64)) (4 * j + 20 * k + 3) (((nI ((((Y / 9)) % 3001))) - (1500 : Int32)).toInt64)), (upd fn (k) (nI (j + 1))), (upT T k (lu_addPoint (T k) (((-20000 : Int32) + 1) + nI (Y % 9000)) ((nI ((X % 4001))) - (1000 : Int32)) (nI ((((X / 9)) % 500))) ((nI ((((Y / 9)) % 3001))) - (1500 : Int32)))))) hQ (⟨rfl, SP_mk (ap_RP hR h15 hsn hj (Gb_mk (bd_s (n := (X % 4001)) (c := 1000) (C := 1000) rfl (by omega) (by omega)) (nI_i (n := (((X / 9)) % 500)) (by omega)) (bd_s (n := (((Y / 9)) % 3001)) (c := 1500) (C := 1500) rfl (by omega) (by omega)) (by omega)) (by rw [(ap_m0 (n := Y % 9000) (by omega))]; omega) (fun q hq => by omega)) (by intro i hi; (try dsimp only); repeat rw [ul_ne _ _ (by omega)]) (by intro i hi; (try dsimp only); repeat rw [ul_ne _ _ (by omega)]) (by intro j hj hj3; (try dsimp only); repeat rw [u_ne _ _ (by omega)])⟩) (rfl) hx hb hr hlocks hP hK hD hS dL_step_528
  · skip
    refine lv_iconst (v := 1) hx hb dL_step_356 (by decide) ?_
    exact hh_retS (w := fun (u : (Nat → Int64) × (Nat → Int64) × (Nat → Int32) × (Nat → LT)) => ([zAJ cJ adW 60 u.1, zAJ cJ adU 33 fu, zAJ cJ adG 60 u.2.1, zAI cI adN 6 u.2.2.1] ++ wB cI cJ cO adB adA lf bs a u.2.2.2)) ((fw, fg, fn, T)) hQ (⟨rfl, SP_id hR⟩) (rfl) hx hb hr hlocks hP hK hD hS dL_step_357
