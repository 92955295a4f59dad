set_option maxHeartbeats 4000000 in
set_option maxRecDepth 100000 in
theorem c_L_step_1 (l : Launch) (dC : Nat → ClassId) (dI : Nat → Nat → Nat) (cI cJ cZ cO : ClassId) (adB adA adW adU adG adN : Nat) (lf : Nat → Option Nat) (a : Nat → AT) (bs : Int32) (T : Nat → LT) (fw fu fg : Nat → Int64) (fn : Nat → Int32) (k X Y : Nat) (sz : Nat) (hlf : ∀ j : Nat, j < 3 → lf (nI j).toNatClampNeg = some (ya_adL (a j))) (hk : k < 3) (hXk : X % 3 = k) (hX : X < 1073741824) (hY : Y < 1073741824) (hR : RP k (T k) fw fu fg fn) (h15 : fw (20 * k + 15) = 0) : Met l yL_step (Cond.code yL_step cL_step 18 (some .boolean) :: wAll) ({ frames := 5, cells := 0, slots := 0, locals := 122 }) (va_Pc [.ref adB, .int (1 : Int32), .int (nI X), .int (nI Y), .ref adW, .ref adG, .ref adN] (gP (dC, dI) ([zAJ cJ adW 60 fw, zAJ cJ adU 33 fu, zAJ cJ adG 60 fg, zAI cI adN 6 fn] ++ wB cI cJ cO adB adA lf bs a T) (tyG cI cJ cZ cO) sz gN)) (va_Qi (fun r (u : (Nat → Int64) × (Nat → Int64) × (Nat → Int32) × (Nat → LT)) => r = 1 ∧ SPost k T fw fu fg fn u.1 u.2.1 u.2.2.1 u.2.2.2) (fun u t => gB (dC, dI) (va_A ([zAJ cJ adW 60 fw, zAJ cJ adU 33 fu, zAJ cJ adG 60 fg, zAI cI adN 6 fn] ++ wB cI cJ cO adB adA lf bs a T) sz) ([zAJ cJ adW 60 u.1, zAJ cJ adU 33 fu, zAJ cJ adG 60 u.2.1, zAI cI adN 6 u.2.2.1] ++ wB cI cJ cO adB adA lf bs a u.2.2.2) (tyG cI cJ cZ cO) t) (va_A ([zAJ cJ adW 60 fw, zAJ cJ adU 33 fu, zAJ cJ adG 60 fg, zAI cI adN 6 fn] ++ wB cI cJ cO adB adA lf bs a T) sz)) 0 0 (va_A ([zAJ cJ adW 60 fw, zAJ cJ adU 33 fu, zAJ cJ adG 60 fg, zAI cI adN 6 fn] ++ wB cI cJ cO adB adA lf bs a T) sz) := by
  refine Met.ofW (cc := cL_step) (maxL := 18) (ret := (some .boolean)) (by decide) rfl ?_
  intro p e s m args below meth c s₁ B hml hv
  obtain ⟨rfl, hsz, hP, hK, hD0, hG⟩ := hv
  have hx := B.exec
  have hb := B.bytes
  have hr := B.returns
  have hts := ht_of B.pre
  have hown : s.vm.findClass RL = some m.cls := findClass_of_methodNamed B.named
  have hlocks := B.notSynchronized
  subst hsz
  have hD := hD0.self (sz := s.heap.size)
  generalize hAe : va_A ([zAJ cJ adW 60 fw, zAJ cJ adU 33 fu, zAJ cJ adG 60 fg, zAI cI adN 6 fn] ++ wB cI cJ cO adB adA lf bs a T) s.heap.size = A at hD ⊢
  have hA : ∀ q : Nat, s.heap.size ≤ q → A q := fun q h => by rw [← hAe]; exact Or.inr h
  have hS : va_S A s.heap s.heap [] := va_S.rf
  have hl := lv_entry ([.ref adB, .int (1 : Int32), .int (nI X), .int (nI Y), .ref adW, .ref adG, .ref adN]) (n := 18) (Nat.le_of_ble_eq_true rfl)
  rw [lg_entry_eq]
  generalize (lg_sl ([.ref adB, .int (1 : Int32), .int (nI X), .int (nI Y), .ref adW, .ref adG, .ref adN]) ++ List.replicate (18 - (lg_sl ([.ref adB, .int (1 : Int32), .int (nI X), .int (nI Y), .ref adW, .ref adG, .ref adN])).length) Slot.unset).toArray = ls at hl ⊢
  have hl : lv_has ls 18 [(0, .ref adB), (1, .int (1 : Int32)), (2, .int (nI X)), (3, .int (nI Y)), (4, .ref adW), (5, .ref adG), (6, .ref adN)] := hl
  refine hh_name (fun Q hQ => ?_)
  have K := fx_mk hx hb hml hown hts hG hK hlf
  have hcs : (0 : Nat) ≤ 0 ∧ (0 : Nat) ≤ 0 := ⟨Nat.zero_le _, Nat.zero_le _⟩
  refine lv_iload_n hx hb dL_step_0 rfl (lv_at hl 2 rfl) ?_
  refine lv_iconst (v := 3) hx hb dL_step_1 (by decide) ?_
  refine lv_irem hx hb dL_step_2 (by decide) ?_
  refine hh_seti (y := (nI ((X % 3)))) (lwMod (a := X) (b := 3) (by omega) (by decide) (by decide) rfl) ?_
  refine hh_seti (y := nI k) (by rw [hXk]) ?_
  refine lv_istore (lv' := [(7, .int (nI k)), (0, .ref adB), (1, .int (1 : Int32)), (2, .int (nI X)), (3, .int (nI Y)), (4, .ref adW), (5, .ref adG), (6, .ref adN)]) hx hb dL_step_3 hl (by decide) rfl (fun ls hl => ?_)
  refine lv_bipush (v := 20) hx hb dL_step_5 (by decide) ?_
  refine lv_iload hx hb dL_step_7 (lv_at hl 0 rfl) ?_
  refine lv_imul hx hb dL_step_9 ?_
  refine hh_seti (y := (nI (20 * k))) (lwMul (a := 20) (b := k) (by omega)) ?_
  refine lv_istore (lv' := [(8, .int (nI (20 * k))), (7, .int (nI k)), (0, .ref adB), (1, .int (1 : Int32)), (2, .int (nI X)), (3, .int (nI Y)), (4, .ref adW), (5, .ref adG), (6, .ref adN)]) hx hb dL_step_10 hl (by decide) rfl (fun ls hl => ?_)
  refine lv_iload_n hx hb dL_step_12 rfl (lv_at hl 3 rfl) ?_
  refine lv_tableIn (off := 184) (tgt := 197) hx hb dL_step_13 (by decide) (by decide) rfl (by decide) ?_
  refine lv_aload hx hb dL_step_197 (lv_at hl 6 rfl) ?_
  refine lv_iload hx hb dL_step_199 (lv_at hl 0 rfl) ?_
  refine lv_iconst (v := 4) hx hb dL_step_201 (by decide) ?_
  refine lv_iadd hx hb dL_step_202 ?_
  refine hh_seti (y := (nI (20 * k + 4))) (lwAdd (a := 20 * k) (b := 4) (by omega)) ?_
  refine lr_ll hx hb hK hP 0 1 (e0 := 20 * k + 4) rfl rfl (by omega) (by decide) dL_step_203 ?_
  refine lv_lstore (lv' := [(9, .long (fw (20 * k + 4))), (8, .int (nI (20 * k))), (7, .int (nI k)), (0, .ref adB), (1, .int (1 : Int32)), (2, .int (nI X)), (3, .int (nI Y)), (4, .ref adW), (5, .ref adG), (6, .ref adN)]) hx hb dL_step_204 hl (by decide) rfl (fun ls hl => ?_)
  refine lv_aload hx hb dL_step_206 (lv_at hl 7 rfl) ?_
  refine lv_iload hx hb dL_step_208 (lv_at hl 1 rfl) ?_
  refine lv_iconst (v := 4) hx hb dL_step_210 (by decide) ?_
  refine lv_iadd hx hb dL_step_211 ?_
  refine hh_seti (y := (nI (20 * k + 4))) (lwAdd (a := 20 * k) (b := 4) (by omega)) ?_
  refine lv_iload_n hx hb dL_step_212 rfl (lv_at hl 6 rfl) ?_
  refine lv_iconst (v := 3) hx hb dL_step_213 (by decide) ?_
  refine lv_irem hx hb dL_step_214 (by decide) ?_
  refine hh_seti (y := (nI ((Y % 3)))) (lwMod (a := Y) (b := 3) (by omega) (by decide) (by decide) rfl) ?_
  refine lv_if_ne (tgt := 231) hx hb dL_step_215 (by decide) (fun h215 => ?_) (fun h215 => ?_)
  · skip
    refine lv_iload_n hx hb dL_step_231 rfl (lv_at hl 6 rfl) ?_
    refine lv_sipush (v := 201) hx hb dL_step_232 (by decide) ?_
    refine lv_irem hx hb dL_step_235 (by decide) ?_
    refine hh_seti (y := (nI ((Y % 201)))) (lwMod (a := Y) (b := 201) (by omega) (by decide) (by decide) rfl) ?_
    refine lv_bipush (v := 100) hx hb dL_step_236 (by decide) ?_
    refine lv_isub hx hb dL_step_238 ?_
    refine lv_i2l hx hb dL_step_239 rfl ?_
    refine lr_ls hx hb hK hP hD hS 0 1 (e0 := 20 * k + 4) rfl rfl (by omega) (by decide) dL_step_240 (w1 := ([zAJ cJ adW 60 (vp_updL fw (20 * k + 4) (((nI ((Y % 201))) - (100 : Int32)).toInt64)), zAJ cJ adU 33 fu, zAJ cJ adG 60 fg, zAI cI adN 6 fn] ++ wB cI cJ cO adB adA lf bs a T)) rfl (fun H locs hP hD hS => ?_)
    refine lv_aload_n hx hb dL_step_241 rfl (lv_at hl 3 rfl) ?_
    refine lv_iload hx hb dL_step_242 (lv_at hl 2 rfl) ?_
    refine lv_aload hx hb dL_step_244 (lv_at hl 7 rfl) ?_
    refine lv_iload hx hb dL_step_246 (lv_at hl 1 rfl) ?_
    refine lv_iconst (v := 4) hx hb dL_step_248 (by decide) ?_
    refine lv_iadd hx hb dL_step_249 ?_
    refine hh_seti (y := (nI (20 * k + 4))) (lwAdd (a := 20 * k) (b := 4) (by omega)) ?_
    refine lr_ll hx hb hK hP 0 1 (e0 := 20 * k + 4) rfl rfl (by omega) (by decide) dL_step_250 ?_
    refine hh_setl (y := ((nI ((Y % 201))) - (100 : Int32)).toInt64) ((ul_eq _ _ _).symm) ?_
    refine lv_l2i hx hb dL_step_251 rfl ?_
    refine hh_seti (y := ((nI ((Y % 201))) - (100 : Int32))) (t3264 _).symm ?_
    refine s_setLoad (k := k) (ldv := ((nI ((Y % 201))) - (100 : Int32))) K hk (bd_lo (M := -10000) (bd_s (n := (Y % 201)) (c := 100) (C := 100) rfl (by omega) (by omega)) (by decide) (by omega)) (bd_hi (M := 10000) (bd_s (n := (Y % 201)) (c := 100) (C := 100) rfl (by omega) (by omega)) (by decide) (by omega)) ⟨Nat.le_of_ble_eq_true rfl, Nat.le_of_ble_eq_true rfl⟩ hcs (Nat.le_of_ble_eq_true rfl) hP hD hS hA hl.1 dL_step_252 (fun H locs hP hD hS => ?_)
    refine hh_seti (y := (yl_pld (T k))) (rfl) ?_
    refine lv_i2l hx hb dL_step_255 rfl ?_
    refine lv_lload hx hb dL_step_256 (lv_at hl 0 rfl) ?_
    refine hh_cne (tgt := 266) hx hb dL_step_258 dL_step_259 (by decide) (fun h9 => absurd (sl_r hR) h9) (fun _ => ?_)
    refine lv_iconst (v := 1) hx hb dL_step_262 (by decide) ?_
    refine lv_goto (tgt := 267) hx hb dL_step_263 (by decide) ?_
    exact hh_retS (w := fun (u : (Nat → Int64) × (Nat → Int64) × (Nat → Int32) × (Nat → LT)) => ([zAJ cJ adW 60 u.1, zAJ cJ adU 33 fu, zAJ cJ adG 60 u.2.1, zAI cI adN 6 u.2.2.1] ++ wB cI cJ cO adB adA lf bs a u.2.2.2)) (((vp_updL fw (20 * k + 4) (((nI ((Y % 201))) - (100 : Int32)).toInt64)), fg, fn, (upT T k (lu_setLoad (T k) ((nI ((Y % 201))) - (100 : Int32)))))) hQ (⟨rfl, SP_mk (op_setLoad hR (by rw [(bd_s (n := (Y % 201)) (c := 100) (C := 100) rfl (by omega) (by omega))]; omega)) (by intro i hi; (try dsimp only); repeat rw [ul_ne _ _ (by omega)]) (fun _ _ => rfl) (fun _ _ _ => rfl)⟩) (rfl) hx hb hr hlocks hP hK hD hS dL_step_267
  · skip
    refine lv_iload_n hx hb dL_step_218 rfl (lv_at hl 6 rfl) ?_
    refine lv_sipush (v := 20001) hx hb dL_step_219 (by decide) ?_
    refine lv_irem hx hb dL_step_222 (by decide) ?_
    refine hh_seti (y := (nI ((Y % 20001)))) (lwMod (a := Y) (b := 20001) (by omega) (by decide) (by decide) rfl) ?_
    refine lv_sipush (v := 10000) hx hb dL_step_223 (by decide) ?_
    refine lv_isub hx hb dL_step_226 ?_
    refine lv_i2l hx hb dL_step_227 rfl ?_
    refine lv_goto (tgt := 240) hx hb dL_step_228 (by decide) ?_
    refine lr_ls hx hb hK hP hD hS 0 1 (e0 := 20 * k + 4) rfl rfl (by omega) (by decide) dL_step_240 (w1 := ([zAJ cJ adW 60 (vp_updL fw (20 * k + 4) (((nI ((Y % 20001))) - (10000 : Int32)).toInt64)), zAJ cJ adU 33 fu, zAJ cJ adG 60 fg, zAI cI adN 6 fn] ++ wB cI cJ cO adB adA lf bs a T)) rfl (fun H locs hP hD hS => ?_)
    refine lv_aload_n hx hb dL_step_241 rfl (lv_at hl 3 rfl) ?_
    refine lv_iload hx hb dL_step_242 (lv_at hl 2 rfl) ?_
    refine lv_aload hx hb dL_step_244 (lv_at hl 7 rfl) ?_
    refine lv_iload hx hb dL_step_246 (lv_at hl 1 rfl) ?_
    refine lv_iconst (v := 4) hx hb dL_step_248 (by decide) ?_
    refine lv_iadd hx hb dL_step_249 ?_
    refine hh_seti (y := (nI (20 * k + 4))) (lwAdd (a := 20 * k) (b := 4) (by omega)) ?_
    refine lr_ll hx hb hK hP 0 1 (e0 := 20 * k + 4) rfl rfl (by omega) (by decide) dL_step_250 ?_
    refine hh_setl (y := ((nI ((Y % 20001))) - (10000 : Int32)).toInt64) ((ul_eq _ _ _).symm) ?_
    refine lv_l2i hx hb dL_step_251 rfl ?_
    refine hh_seti (y := ((nI ((Y % 20001))) - (10000 : Int32))) (t3264 _).symm ?_
    refine s_setLoad (k := k) (ldv := ((nI ((Y % 20001))) - (10000 : Int32))) K hk (bd_lo (M := -10000) (bd_s (n := (Y % 20001)) (c := 10000) (C := 10000) rfl (by omega) (by omega)) (by decide) (by omega)) (bd_hi (M := 10000) (bd_s (n := (Y % 20001)) (c := 10000) (C := 10000) rfl (by omega) (by omega)) (by decide) (by omega)) ⟨Nat.le_of_ble_eq_true rfl, Nat.le_of_ble_eq_true rfl⟩ hcs (Nat.le_of_ble_eq_true rfl) hP hD hS hA hl.1 dL_step_252 (fun H locs hP hD hS => ?_)
    refine hh_seti (y := (yl_pld (T k))) (rfl) ?_
    refine lv_i2l hx hb dL_step_255 rfl ?_
    refine lv_lload hx hb dL_step_256 (lv_at hl 0 rfl) ?_
    refine hh_cne (tgt := 266) hx hb dL_step_258 dL_step_259 (by decide) (fun h9 => absurd (sl_r hR) h9) (fun _ => ?_)
    refine lv_iconst (v := 1) hx hb dL_step_262 (by decide) ?_
    refine lv_goto (tgt := 267) hx hb dL_step_263 (by decide) ?_
    exact hh_retS (w := fun (u : (Nat → Int64) × (Nat → Int64) × (Nat → Int32) × (Nat → LT)) => ([zAJ cJ adW 60 u.1, zAJ cJ adU 33 fu, zAJ cJ adG 60 u.2.1, zAI cI adN 6 u.2.2.1] ++ wB cI cJ cO adB adA lf bs a u.2.2.2)) (((vp_updL fw (20 * k + 4) (((nI ((Y % 20001))) - (10000 : Int32)).toInt64)), fg, fn, (upT T k (lu_setLoad (T k) ((nI ((Y % 20001))) - (10000 : Int32)))))) hQ (⟨rfl, SP_mk (op_setLoad hR (by rw [(bd_s (n := (Y % 20001)) (c := 10000) (C := 10000) rfl (by omega) (by omega))]; omega)) (by intro i hi; (try dsimp only); repeat rw [ul_ne _ _ (by omega)]) (fun _ _ => rfl) (fun _ _ _ => rfl)⟩) (rfl) hx hb hr hlocks hP hK hD hS dL_step_267
