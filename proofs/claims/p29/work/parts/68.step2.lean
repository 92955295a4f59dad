set_option maxHeartbeats 4000000 in
set_option maxRecDepth 100000 in
theorem c_L_step_2 (l : Launch) (dC : Nat → ClassId) (dI : Nat → Nat → Nat) (cI cJ cZ cO : ClassId) (adB adA adW adU adG adN : Nat) (lf : Nat → Option Nat) (a : Nat → AT) (bs : Int32) (T : Nat → LT) (fw fu fg : Nat → Int64) (fn : Nat → Int32) (k X Y : Nat) (sz : Nat) (hlf : ∀ j : Nat, j < 3 → lf (nI j).toNatClampNeg = some (ya_adL (a j))) (hk : k < 3) (hXk : X % 3 = k) (hX : X < 1073741824) (hY : Y < 1073741824) (hR : RP k (T k) fw fu fg fn) (h15 : fw (20 * k + 15) = 0) : Met l yL_step (Cond.code yL_step cL_step 18 (some .boolean) :: wAll) ({ frames := 5, cells := 0, slots := 0, locals := 122 }) (va_Pc [.ref adB, .int (2 : Int32), .int (nI X), .int (nI Y), .ref adW, .ref adG, .ref adN] (gP (dC, dI) ([zAJ cJ adW 60 fw, zAJ cJ adU 33 fu, zAJ cJ adG 60 fg, zAI cI adN 6 fn] ++ wB cI cJ cO adB adA lf bs a T) (tyG cI cJ cZ cO) sz gN)) (va_Qi (fun r (u : (Nat → Int64) × (Nat → Int64) × (Nat → Int32) × (Nat → LT)) => r = 1 ∧ SPost k T fw fu fg fn u.1 u.2.1 u.2.2.1 u.2.2.2) (fun u t => gB (dC, dI) (va_A ([zAJ cJ adW 60 fw, zAJ cJ adU 33 fu, zAJ cJ adG 60 fg, zAI cI adN 6 fn] ++ wB cI cJ cO adB adA lf bs a T) sz) ([zAJ cJ adW 60 u.1, zAJ cJ adU 33 fu, zAJ cJ adG 60 u.2.1, zAI cI adN 6 u.2.2.1] ++ wB cI cJ cO adB adA lf bs a u.2.2.2) (tyG cI cJ cZ cO) t) (va_A ([zAJ cJ adW 60 fw, zAJ cJ adU 33 fu, zAJ cJ adG 60 fg, zAI cI adN 6 fn] ++ wB cI cJ cO adB adA lf bs a T) sz)) 0 0 (va_A ([zAJ cJ adW 60 fw, zAJ cJ adU 33 fu, zAJ cJ adG 60 fg, zAI cI adN 6 fn] ++ wB cI cJ cO adB adA lf bs a T) sz) := by
  refine Met.ofW (cc := cL_step) (maxL := 18) (ret := (some .boolean)) (by decide) rfl ?_
  intro p e s m args below meth c s₁ B hml hv
  obtain ⟨rfl, hsz, hP, hK, hD0, hG⟩ := hv
  have hx := B.exec
  have hb := B.bytes
  have hr := B.returns
  have hts := ht_of B.pre
  have hown : s.vm.findClass RL = some m.cls := findClass_of_methodNamed B.named
  have hlocks := B.notSynchronized
  subst hsz
  have hD := hD0.self (sz := s.heap.size)
  generalize hAe : va_A ([zAJ cJ adW 60 fw, zAJ cJ adU 33 fu, zAJ cJ adG 60 fg, zAI cI adN 6 fn] ++ wB cI cJ cO adB adA lf bs a T) s.heap.size = A at hD ⊢
  have hA : ∀ q : Nat, s.heap.size ≤ q → A q := fun q h => by rw [← hAe]; exact Or.inr h
  have hS : va_S A s.heap s.heap [] := va_S.rf
  have hl := lv_entry ([.ref adB, .int (2 : Int32), .int (nI X), .int (nI Y), .ref adW, .ref adG, .ref adN]) (n := 18) (Nat.le_of_ble_eq_true rfl)
  rw [lg_entry_eq]
  generalize (lg_sl ([.ref adB, .int (2 : Int32), .int (nI X), .int (nI Y), .ref adW, .ref adG, .ref adN]) ++ List.replicate (18 - (lg_sl ([.ref adB, .int (2 : Int32), .int (nI X), .int (nI Y), .ref adW, .ref adG, .ref adN])).length) Slot.unset).toArray = ls at hl ⊢
  have hl : lv_has ls 18 [(0, .ref adB), (1, .int (2 : Int32)), (2, .int (nI X)), (3, .int (nI Y)), (4, .ref adW), (5, .ref adG), (6, .ref adN)] := hl
  refine hh_name (fun Q hQ => ?_)
  have K := fx_mk hx hb hml hown hts hG hK hlf
  have hcs : (0 : Nat) ≤ 0 ∧ (0 : Nat) ≤ 0 := ⟨Nat.zero_le _, Nat.zero_le _⟩
  refine lv_iload_n hx hb dL_step_0 rfl (lv_at hl 2 rfl) ?_
  refine lv_iconst (v := 3) hx hb dL_step_1 (by decide) ?_
  refine lv_irem hx hb dL_step_2 (by decide) ?_
  refine hh_seti (y := (nI ((X % 3)))) (lwMod (a := X) (b := 3) (by omega) (by decide) (by decide) rfl) ?_
  refine hh_seti (y := nI k) (by rw [hXk]) ?_
  refine lv_istore (lv' := [(7, .int (nI k)), (0, .ref adB), (1, .int (2 : Int32)), (2, .int (nI X)), (3, .int (nI Y)), (4, .ref adW), (5, .ref adG), (6, .ref adN)]) hx hb dL_step_3 hl (by decide) rfl (fun ls hl => ?_)
  refine lv_bipush (v := 20) hx hb dL_step_5 (by decide) ?_
  refine lv_iload hx hb dL_step_7 (lv_at hl 0 rfl) ?_
  refine lv_imul hx hb dL_step_9 ?_
  refine hh_seti (y := (nI (20 * k))) (lwMul (a := 20) (b := k) (by omega)) ?_
  refine lv_istore (lv' := [(8, .int (nI (20 * k))), (7, .int (nI k)), (0, .ref adB), (1, .int (2 : Int32)), (2, .int (nI X)), (3, .int (nI Y)), (4, .ref adW), (5, .ref adG), (6, .ref adN)]) hx hb dL_step_10 hl (by decide) rfl (fun ls hl => ?_)
  refine lv_iload_n hx hb dL_step_12 rfl (lv_at hl 3 rfl) ?_
  refine lv_tableIn (off := 255) (tgt := 268) hx hb dL_step_13 (by decide) (by decide) rfl (by decide) ?_
  refine lv_aload_n hx hb dL_step_268 rfl (lv_at hl 2 rfl) ?_
  refine lv_aload hx hb dL_step_269 (lv_at hl 6 rfl) ?_
  refine lv_aload hx hb dL_step_271 (lv_at hl 8 rfl) ?_
  refine lv_iload hx hb dL_step_273 (lv_at hl 1 rfl) ?_
  refine lv_iload_n hx hb dL_step_275 rfl (lv_at hl 5 rfl) ?_
  refine lv_iconst (v := 5) hx hb dL_step_276 (by decide) ?_
  refine lv_irem hx hb dL_step_277 (by decide) ?_
  refine hh_seti (y := (nI ((Y % 5)))) (lwMod (a := Y) (b := 5) (by omega) (by decide) (by decide) rfl) ?_
  refine lv_if_ne (tgt := 292) hx hb dL_step_278 (by decide) (fun h278 => ?_) (fun h278 => ?_)
  · skip
    refine lv_iload_n hx hb dL_step_292 rfl (lv_at hl 5 rfl) ?_
    refine lv_sipush (v := 3000) hx hb dL_step_293 (by decide) ?_
    refine lv_irem hx hb dL_step_296 (by decide) ?_
    refine hh_seti (y := (nI ((Y % 3000)))) (lwMod (a := Y) (b := 3000) (by omega) (by decide) (by decide) rfl) ?_
    refine lv_iload_n hx hb dL_step_297 rfl (lv_at hl 4 rfl) ?_
    refine lv_bipush (v := 7) hx hb dL_step_298 (by decide) ?_
    refine lv_irem hx hb dL_step_300 (by decide) ?_
    refine hh_seti (y := (nI ((X % 7)))) (lwMod (a := X) (b := 7) (by omega) (by decide) (by decide) rfl) ?_
    refine lv_if_ne (tgt := 316) hx hb dL_step_301 (by decide) (fun h301 => ?_) (fun h301 => ?_)
    · skip
      refine lv_iload_n hx hb dL_step_316 rfl (lv_at hl 4 rfl) ?_
      refine lv_sipush (v := 400) hx hb dL_step_317 (by decide) ?_
      refine lv_irem hx hb dL_step_320 (by decide) ?_
      refine hh_seti (y := (nI ((X % 400)))) (lwMod (a := X) (b := 400) (by omega) (by decide) (by decide) rfl) ?_
      refine lv_iload_n hx hb dL_step_321 rfl (lv_at hl 4 rfl) ?_
      refine lv_iconst (v := 2) hx hb dL_step_322 (by decide) ?_
      refine lv_irem hx hb dL_step_323 (by decide) ?_
      refine hh_seti (y := (nI ((X % 2)))) (lwMod (a := X) (b := 2) (by omega) (by decide) (by decide) rfl) ?_
      refine lv_if_ne (tgt := 331) hx hb dL_step_324 (by decide) (fun h324 => ?_) (fun h324 => ?_)
      · skip
        refine lv_iload_n hx hb dL_step_331 rfl (lv_at hl 5 rfl) ?_
        refine lv_bipush (v := 9) hx hb dL_step_332 (by decide) ?_
        refine lv_idiv hx hb dL_step_334 (by decide) ?_
        refine hh_seti (y := (nI ((Y / 9)))) (lwDiv (a := Y) (b := 9) (by omega) (by decide) (by decide) rfl) ?_
        refine lv_sipush (v := 9001) hx hb dL_step_335 (by decide) ?_
        refine lv_irem hx hb dL_step_338 (by decide) ?_
        refine hh_seti (y := (nI ((((Y / 9)) % 9001)))) (lwMod (a := (Y / 9)) (b := 9001) (by omega) (by decide) (by decide) rfl) ?_
        refine lv_sipush (v := 4000) hx hb dL_step_339 (by decide) ?_
        refine lv_isub hx hb dL_step_342 ?_
        refine lw_RS (S := (Nat → Int64) × (Nat → Int32) × (Nat → LT)) (wl := []) (wr := ([zAJ cJ adW 60 fw, zAJ cJ adU 33 fu, zAJ cJ adG 60 fg, zAI cI adN 6 fn] ++ wB cI cJ cO adB adA lf bs a T)) (wq := fun u => ([zAJ cJ adW 60 u.1, zAJ cJ adU 33 fu, zAJ cJ adG 60 fg, zAI cI adN 6 u.2.1] ++ wB cI cJ cO adB adA lf bs a u.2.2)) (rest := []) (va_runS (As := [.ref adB, .ref adW, .ref adN, .int (nI k), .int (nI ((Y % 3000))), .int (nI ((X % 400))), .int ((nI ((((Y / 9)) % 9001))) - (4000 : Int32))]) (rest := []) ⟨hx, hb, hml, hown, hts⟩ (c_L_gains l dC dI cI cJ cZ cO adB adA adW adU adG adN lf a bs T fw fu fg fn k (nI ((Y % 3000))) (nI ((X % 400))) ((nI ((((Y / 9)) % 9001))) - (4000 : Int32)) _ hlf hk hR h15 (Gb_mk (nI_i (n := (Y % 3000)) (by omega)) (nI_i (n := (X % 400)) (by omega)) (bd_s (n := (((Y / 9)) % 9001)) (c := 4000) (C := 4000) rfl (by omega) (by omega)) (by omega))) (va_cwS 7 hts (gd_S wd_2_137 wd_2_138 wd_1_0 wd_2_139) rfl rfl rfl (by decide +kernel) ⟨Nat.le_of_ble_eq_true rfl, Nat.le_of_ble_eq_true rfl⟩) (lw_S2 (wl := []) gN_c (fun U _ hW => gN_w hW hG) hK (List.Perm.refl _) hP hD) rfl rfl hl.1 rfl (lv_room (Nat.le_of_ble_eq_true rfl)) dL_step_343 hcs) hP hD hS hA (fun r u H locs hpost hP hD hS => ?_)
        obtain ⟨rfl, hsp⟩ := hpost
        have hP : va_P (dC, dI) vwCl ([zAJ cJ adW 60 u.1, zAJ cJ adU 33 fu, zAJ cJ adG 60 fg, zAI cI adN 6 u.2.1] ++ wB cI cJ cO adB adA lf bs a u.2.2) H := hP
        have hD : va_D A ([zAJ cJ adW 60 u.1, zAJ cJ adU 33 fu, zAJ cJ adG 60 fg, zAI cI adN 6 u.2.1] ++ wB cI cJ cO adB adA lf bs a u.2.2) := hD
        exact hh_retS (w := fun (u : (Nat → Int64) × (Nat → Int64) × (Nat → Int32) × (Nat → LT)) => ([zAJ cJ adW 60 u.1, zAJ cJ adU 33 fu, zAJ cJ adG 60 u.2.1, zAI cI adN 6 u.2.2.1] ++ wB cI cJ cO adB adA lf bs a u.2.2.2)) ((u.1, fg, u.2.1, u.2.2)) hQ (⟨rfl, hsp⟩) (rfl) hx hb hr hlocks hP hK hD hS dL_step_346
      · skip
        refine lv_iconst (v := 0) hx hb dL_step_327 (by decide) ?_
        refine lv_goto (tgt := 343) hx hb dL_step_328 (by decide) ?_
        refine lw_RS (S := (Nat → Int64) × (Nat → Int32) × (Nat → LT)) (wl := []) (wr := ([zAJ cJ adW 60 fw, zAJ cJ adU 33 fu, zAJ cJ adG 60 fg, zAI cI adN 6 fn] ++ wB cI cJ cO adB adA lf bs a T)) (wq := fun u => ([zAJ cJ adW 60 u.1, zAJ cJ adU 33 fu, zAJ cJ adG 60 fg, zAI cI adN 6 u.2.1] ++ wB cI cJ cO adB adA lf bs a u.2.2)) (rest := []) (va_runS (As := [.ref adB, .ref adW, .ref adN, .int (nI k), .int (nI ((Y % 3000))), .int (nI ((X % 400))), .int (0 : Int32)]) (rest := []) ⟨hx, hb, hml, hown, hts⟩ (c_L_gains l dC dI cI cJ cZ cO adB adA adW adU adG adN lf a bs T fw fu fg fn k (nI ((Y % 3000))) (nI ((X % 400))) (0 : Int32) _ hlf hk hR h15 (Gb_mk (nI_i (n := (Y % 3000)) (by omega)) (nI_i (n := (X % 400)) (by omega)) (show (0 : Int32).toInt = (0 : Int) from by decide) (by omega))) (va_cwS 7 hts (gd_S wd_2_137 wd_2_138 wd_1_0 wd_2_139) rfl rfl rfl (by decide +kernel) ⟨Nat.le_of_ble_eq_true rfl, Nat.le_of_ble_eq_true rfl⟩) (lw_S2 (wl := []) gN_c (fun U _ hW => gN_w hW hG) hK (List.Perm.refl _) hP hD) rfl rfl hl.1 rfl (lv_room (Nat.le_of_ble_eq_true rfl)) dL_step_343 hcs) hP hD hS hA (fun r u H locs hpost hP hD hS => ?_)
        obtain ⟨rfl, hsp⟩ := hpost
        have hP : va_P (dC, dI) vwCl ([zAJ cJ adW 60 u.1, zAJ cJ adU 33 fu, zAJ cJ adG 60 fg, zAI cI adN 6 u.2.1] ++ wB cI cJ cO adB adA lf bs a u.2.2) H := hP
        have hD : va_D A ([zAJ cJ adW 60 u.1, zAJ cJ adU 33 fu, zAJ cJ adG 60 fg, zAI cI adN 6 u.2.1] ++ wB cI cJ cO adB adA lf bs a u.2.2) := hD
        exact hh_retS (w := fun (u : (Nat → Int64) × (Nat → Int64) × (Nat → Int32) × (Nat → LT)) => ([zAJ cJ adW 60 u.1, zAJ cJ adU 33 fu, zAJ cJ adG 60 u.2.1, zAI cI adN 6 u.2.2.1] ++ wB cI cJ cO adB adA lf bs a u.2.2.2)) ((u.1, fg, u.2.1, u.2.2)) hQ (⟨rfl, hsp⟩) (rfl) hx hb hr hlocks hP hK hD hS dL_step_346
    · skip
      refine lv_iload_n hx hb dL_step_304 rfl (lv_at hl 4 rfl) ?_
      refine lv_sipush (v := 10001) hx hb dL_step_305 (by decide) ?_
      refine lv_irem hx hb dL_step_308 (by decide) ?_
      refine hh_seti (y := (nI ((X % 10001)))) (lwMod (a := X) (b := 10001) (by omega) (by decide) (by decide) rfl) ?_
      refine lv_sipush (v := 5000) hx hb dL_step_309 (by decide) ?_
      refine lv_isub hx hb dL_step_312 ?_
      refine lv_goto (tgt := 321) hx hb dL_step_313 (by decide) ?_
      refine lv_iload_n hx hb dL_step_321 rfl (lv_at hl 4 rfl) ?_
      refine lv_iconst (v := 2) hx hb dL_step_322 (by decide) ?_
      refine lv_irem hx hb dL_step_323 (by decide) ?_
      refine hh_seti (y := (nI ((X % 2)))) (lwMod (a := X) (b := 2) (by omega) (by decide) (by decide) rfl) ?_
      refine lv_if_ne (tgt := 331) hx hb dL_step_324 (by decide) (fun h324 => ?_) (fun h324 => ?_)
      · skip
        refine lv_iload_n hx hb dL_step_331 rfl (lv_at hl 5 rfl) ?_
        refine lv_bipush (v := 9) hx hb dL_step_332 (by decide) ?_
        refine lv_idiv hx hb dL_step_334 (by decide) ?_
        refine hh_seti (y := (nI ((Y / 9)))) (lwDiv (a := Y) (b := 9) (by omega) (by decide) (by decide) rfl) ?_
        refine lv_sipush (v := 9001) hx hb dL_step_335 (by decide) ?_
        refine lv_irem hx hb dL_step_338 (by decide) ?_
        refine hh_seti (y := (nI ((((Y / 9)) % 9001)))) (lwMod (a := (Y / 9)) (b := 9001) (by omega) (by decide) (by decide) rfl) ?_
        refine lv_sipush (v := 4000) hx hb dL_step_339 (by decide) ?_
        refine lv_isub hx hb dL_step_342 ?_
        refine lw_RS (S := (Nat → Int64) × (Nat → Int32) × (Nat → LT)) (wl := []) (wr := ([zAJ cJ adW 60 fw, zAJ cJ adU 33 fu, zAJ cJ adG 60 fg, zAI cI adN 6 fn] ++ wB cI cJ cO adB adA lf bs a T)) (wq := fun u => ([zAJ cJ adW 60 u.1, zAJ cJ adU 33 fu, zAJ cJ adG 60 fg, zAI cI adN 6 u.2.1] ++ wB cI cJ cO adB adA lf bs a u.2.2)) (rest := []) (va_runS (As := [.ref adB, .ref adW, .ref adN, .int (nI k), .int (nI ((Y % 3000))), .int ((nI ((X % 10001))) - (5000 : Int32)), .int ((nI ((((Y / 9)) % 9001))) - (4000 : Int32))]) (rest := []) ⟨hx, hb, hml, hown, hts⟩ (c_L_gains l dC dI cI cJ cZ cO adB adA adW adU adG adN lf a bs T fw fu fg fn k (nI ((Y % 3000))) ((nI ((X % 10001))) - (5000 : Int32)) ((nI ((((Y / 9)) % 9001))) - (4000 : Int32)) _ hlf hk hR h15 (Gb_mk (nI_i (n := (Y % 3000)) (by omega)) (bd_s (n := (X % 10001)) (c := 5000) (C := 5000) rfl (by omega) (by omega)) (bd_s (n := (((Y / 9)) % 9001)) (c := 4000) (C := 4000) rfl (by omega) (by omega)) (by omega))) (va_cwS 7 hts (gd_S wd_2_137 wd_2_138 wd_1_0 wd_2_139) rfl rfl rfl (by decide +kernel) ⟨Nat.le_of_ble_eq_true rfl, Nat.le_of_ble_eq_true rfl⟩) (lw_S2 (wl := []) gN_c (fun U _ hW => gN_w hW hG) hK (List.Perm.refl _) hP hD) rfl rfl hl.1 rfl (lv_room (Nat.le_of_ble_eq_true rfl)) dL_step_343 hcs) hP hD hS hA (fun r u H locs hpost hP hD hS => ?_)
        obtain ⟨rfl, hsp⟩ := hpost
        have hP : va_P (dC, dI) vwCl ([zAJ cJ adW 60 u.1, zAJ cJ adU 33 fu, zAJ cJ adG 60 fg, zAI cI adN 6 u.2.1] ++ wB cI cJ cO adB adA lf bs a u.2.2) H := hP
        have hD : va_D A ([zAJ cJ adW 60 u.1, zAJ cJ adU 33 fu, zAJ cJ adG 60 fg, zAI cI adN 6 u.2.1] ++ wB cI cJ cO adB adA lf bs a u.2.2) := hD
        exact hh_retS (w := fun (u : (Nat → Int64) × (Nat → Int64) × (Nat → Int32) × (Nat → LT)) => ([zAJ cJ adW 60 u.1, zAJ cJ adU 33 fu, zAJ cJ adG 60 u.2.1, zAI cI adN 6 u.2.2.1] ++ wB cI cJ cO adB adA lf bs a u.2.2.2)) ((u.1, fg, u.2.1, u.2.2)) hQ (⟨rfl, hsp⟩) (rfl) hx hb hr hlocks hP hK hD hS dL_step_346
      · skip
        refine lv_iconst (v := 0) hx hb dL_step_327 (by decide) ?_
        refine lv_goto (tgt := 343) hx hb dL_step_328 (by decide) ?_
        refine lw_RS (S := (Nat → Int64) × (Nat → Int32) × (Nat → LT)) (wl := []) (wr := ([zAJ cJ adW 60 fw, zAJ cJ adU 33 fu, zAJ cJ adG 60 fg, zAI cI adN 6 fn] ++ wB cI cJ cO adB adA lf bs a T)) (wq := fun u => ([zAJ cJ adW 60 u.1, zAJ cJ adU 33 fu, zAJ cJ adG 60 fg, zAI cI adN 6 u.2.1] ++ wB cI cJ cO adB adA lf bs a u.2.2)) (rest := []) (va_runS (As := [.ref adB, .ref adW, .ref adN, .int (nI k), .int (nI ((Y % 3000))), .int ((nI ((X % 10001))) - (5000 : Int32)), .int (0 : Int32)]) (rest := []) ⟨hx, hb, hml, hown, hts⟩ (c_L_gains l dC dI cI cJ cZ cO adB adA adW adU adG adN lf a bs T fw fu fg fn k (nI ((Y % 3000))) ((nI ((X % 10001))) - (5000 : Int32)) (0 : Int32) _ hlf hk hR h15 (Gb_mk (nI_i (n := (Y % 3000)) (by omega)) (bd_s (n := (X % 10001)) (c := 5000) (C := 5000) rfl (by omega) (by omega)) (show (0 : Int32).toInt = (0 : Int) from by decide) (by omega))) (va_cwS 7 hts (gd_S wd_2_137 wd_2_138 wd_1_0 wd_2_139) rfl rfl rfl (by decide +kernel) ⟨Nat.le_of_ble_eq_true rfl, Nat.le_of_ble_eq_true rfl⟩) (lw_S2 (wl := []) gN_c (fun U _ hW => gN_w hW hG) hK (List.Perm.refl _) hP hD) rfl rfl hl.1 rfl (lv_room (Nat.le_of_ble_eq_true rfl)) dL_step_343 hcs) hP hD hS hA (fun r u H locs hpost hP hD hS => ?_)
        obtain ⟨rfl, hsp⟩ := hpost
        have hP : va_P (dC, dI) vwCl ([zAJ cJ adW 60 u.1, zAJ cJ adU 33 fu, zAJ cJ adG 60 fg, zAI cI adN 6 u.2.1] ++ wB cI cJ cO adB adA lf bs a u.2.2) H := hP
        have hD : va_D A ([zAJ cJ adW 60 u.1, zAJ cJ adU 33 fu, zAJ cJ adG 60 fg, zAI cI adN 6 u.2.1] ++ wB cI cJ cO adB adA lf bs a u.2.2) := hD
        exact hh_retS (w := fun (u : (Nat → Int64) × (Nat → Int64) × (Nat → Int32) × (Nat → LT)) => ([zAJ cJ adW 60 u.1, zAJ cJ adU 33 fu, zAJ cJ adG 60 u.2.1, zAI cI adN 6 u.2.2.1] ++ wB cI cJ cO adB adA lf bs a u.2.2.2)) ((u.1, fg, u.2.1, u.2.2)) hQ (⟨rfl, hsp⟩) (rfl) hx hb hr hlocks hP hK hD hS dL_step_346
  · skip
    refine lv_iload_n hx hb dL_step_281 rfl (lv_at hl 5 rfl) ?_
    refine lv_ldc (v := 40001) hx hb hown (hts _ wd_2_136) dL_step_282 ?_
    refine lv_irem hx hb dL_step_284 (by decide) ?_
    refine hh_seti (y := (nI ((Y % 40001)))) (lwMod (a := Y) (b := 40001) (by omega) (by decide) (by decide) rfl) ?_
    refine lv_sipush (v := 20000) hx hb dL_step_285 (by decide) ?_
    refine lv_isub hx hb dL_step_288 ?_
    refine lv_goto (tgt := 297) hx hb dL_step_289 (by decide) ?_
    refine lv_iload_n hx hb dL_step_297 rfl (lv_at hl 4 rfl) ?_
    refine lv_bipush (v := 7) hx hb dL_step_298 (by decide) ?_
    refine lv_irem hx hb dL_step_300 (by decide) ?_
    refine hh_seti (y := (nI ((X % 7)))) (lwMod (a := X) (b := 7) (by omega) (by decide) (by decide) rfl) ?_
    refine lv_if_ne (tgt := 316) hx hb dL_step_301 (by decide) (fun h301 => ?_) (fun h301 => ?_)
    · skip
      refine lv_iload_n hx hb dL_step_316 rfl (lv_at hl 4 rfl) ?_
      refine lv_sipush (v := 400) hx hb dL_step_317 (by decide) ?_
      refine lv_irem hx hb dL_step_320 (by decide) ?_
      refine hh_seti (y := (nI ((X % 400)))) (lwMod (a := X) (b := 400) (by omega) (by decide) (by decide) rfl) ?_
      refine lv_iload_n hx hb dL_step_321 rfl (lv_at hl 4 rfl) ?_
      refine lv_iconst (v := 2) hx hb dL_step_322 (by decide) ?_
      refine lv_irem hx hb dL_step_323 (by decide) ?_
      refine hh_seti (y := (nI ((X % 2)))) (lwMod (a := X) (b := 2) (by omega) (by decide) (by decide) rfl) ?_
      refine lv_if_ne (tgt := 331) hx hb dL_step_324 (by decide) (fun h324 => ?_) (fun h324 => ?_)
      · skip
        refine lv_iload_n hx hb dL_step_331 rfl (lv_at hl 5 rfl) ?_
        refine lv_bipush (v := 9) hx hb dL_step_332 (by decide) ?_
        refine lv_idiv hx hb dL_step_334 (by decide) ?_
        refine hh_seti (y := (nI ((Y / 9)))) (lwDiv (a := Y) (b := 9) (by omega) (by decide) (by decide) rfl) ?_
        refine lv_sipush (v := 9001) hx hb dL_step_335 (by decide) ?_
        refine lv_irem hx hb dL_step_338 (by decide) ?_
        refine hh_seti (y := (nI ((((Y / 9)) % 9001)))) (lwMod (a := (Y / 9)) (b := 9001) (by omega) (by decide) (by decide) rfl) ?_
        refine lv_sipush (v := 4000) hx hb dL_step_339 (by decide) ?_
        refine lv_isub hx hb dL_step_342 ?_
        refine lw_RS (S := (Nat → Int64) × (Nat → Int32) × (Nat → LT)) (wl := []) (wr := ([zAJ cJ adW 60 fw, zAJ cJ adU 33 fu, zAJ cJ adG 60 fg, zAI cI adN 6 fn] ++ wB cI cJ cO adB adA lf bs a T)) (wq := fun u => ([zAJ cJ adW 60 u.1, zAJ cJ adU 33 fu, zAJ cJ adG 60 fg, zAI cI adN 6 u.2.1] ++ wB cI cJ cO adB adA lf bs a u.2.2)) (rest := []) (va_runS (As := [.ref adB, .ref adW, .ref adN, .int (nI k), .int ((nI ((Y % 40001))) - (20000 : Int32)), .int (nI ((X % 400))), .int ((nI ((((Y / 9)) % 9001))) - (4000 : Int32))]) (rest := []) ⟨hx, hb, hml, hown, hts⟩ (c_L_gains l dC dI cI cJ cZ cO adB adA adW adU adG adN lf a bs T fw fu fg fn k ((nI ((Y % 40001))) - (20000 : Int32)) (nI ((X % 400))) ((nI ((((Y / 9)) % 9001))) - (4000 : Int32)) _ hlf hk hR h15 (Gb_mk (bd_s (n := (Y % 40001)) (c := 20000) (C := 20000) rfl (by omega) (by omega)) (nI_i (n := (X % 400)) (by omega)) (bd_s (n := (((Y / 9)) % 9001)) (c := 4000) (C := 4000) rfl (by omega) (by omega)) (by omega))) (va_cwS 7 hts (gd_S wd_2_137 wd_2_138 wd_1_0 wd_2_139) rfl rfl rfl (by decide +kernel) ⟨Nat.le_of_ble_eq_true rfl, Nat.le_of_ble_eq_true rfl⟩) (lw_S2 (wl := []) gN_c (fun U _ hW => gN_w hW hG) hK (List.Perm.refl _) hP hD) rfl rfl hl.1 rfl (lv_room (Nat.le_of_ble_eq_true rfl)) dL_step_343 hcs) hP hD hS hA (fun r u H locs hpost hP hD hS => ?_)
        obtain ⟨rfl, hsp⟩ := hpost
        have hP : va_P (dC, dI) vwCl ([zAJ cJ adW 60 u.1, zAJ cJ adU 33 fu, zAJ cJ adG 60 fg, zAI cI adN 6 u.2.1] ++ wB cI cJ cO adB adA lf bs a u.2.2) H := hP
        have hD : va_D A ([zAJ cJ adW 60 u.1, zAJ cJ adU 33 fu, zAJ cJ adG 60 fg, zAI cI adN 6 u.2.1] ++ wB cI cJ cO adB adA lf bs a u.2.2) := hD
        exact hh_retS (w := fun (u : (Nat → Int64) × (Nat → Int64) × (Nat → Int32) × (Nat → LT)) => ([zAJ cJ adW 60 u.1, zAJ cJ adU 33 fu, zAJ cJ adG 60 u.2.1, zAI cI adN 6 u.2.2.1] ++ wB cI cJ cO adB adA lf bs a u.2.2.2)) ((u.1, fg, u.2.1, u.2.2)) hQ (⟨rfl, hsp⟩) (rfl) hx hb hr hlocks hP hK hD hS dL_step_346
      · skip
        refine lv_iconst (v := 0) hx hb dL_step_327 (by decide) ?_
        refine lv_goto (tgt := 343) hx hb dL_step_328 (by decide) ?_
        refine lw_RS (S := (Nat → Int64) × (Nat → Int32) × (Nat → LT)) (wl := []) (wr := ([zAJ cJ adW 60 fw, zAJ cJ adU 33 fu, zAJ cJ adG 60 fg, zAI cI adN 6 fn] ++ wB cI cJ cO adB adA lf bs a T)) (wq := fun u => ([zAJ cJ adW 60 u.1, zAJ cJ adU 33 fu, zAJ cJ adG 60 fg, zAI cI adN 6 u.2.1] ++ wB cI cJ cO adB adA lf bs a u.2.2)) (rest := []) (va_runS (As := [.ref adB, .ref adW, .ref adN, .int (nI k), .int ((nI ((Y % 40001))) - (20000 : Int32)), .int (nI ((X % 400))), .int (0 : Int32)]) (rest := []) ⟨hx, hb, hml, hown, hts⟩ (c_L_gains l dC dI cI cJ cZ cO adB adA adW adU adG adN lf a bs T fw fu fg fn k ((nI ((Y % 40001))) - (20000 : Int32)) (nI ((X % 400))) (0 : Int32) _ hlf hk hR h15 (Gb_mk (bd_s (n := (Y % 40001)) (c := 20000) (C := 20000) rfl (by omega) (by omega)) (nI_i (n := (X % 400)) (by omega)) (show (0 : Int32).toInt = (0 : Int) from by decide) (by omega))) (va_cwS 7 hts (gd_S wd_2_137 wd_2_138 wd_1_0 wd_2_139) rfl rfl rfl (by decide +kernel) ⟨Nat.le_of_ble_eq_true rfl, Nat.le_of_ble_eq_true rfl⟩) (lw_S2 (wl := []) gN_c (fun U _ hW => gN_w hW hG) hK (List.Perm.refl _) hP hD) rfl rfl hl.1 rfl (lv_room (Nat.le_of_ble_eq_true rfl)) dL_step_343 hcs) hP hD hS hA (fun r u H locs hpost hP hD hS => ?_)
        obtain ⟨rfl, hsp⟩ := hpost
        have hP : va_P (dC, dI) vwCl ([zAJ cJ adW 60 u.1, zAJ cJ adU 33 fu, zAJ cJ adG 60 fg, zAI cI adN 6 u.2.1] ++ wB cI cJ cO adB adA lf bs a u.2.2) H := hP
        have hD : va_D A ([zAJ cJ adW 60 u.1, zAJ cJ adU 33 fu, zAJ cJ adG 60 fg, zAI cI adN 6 u.2.1] ++ wB cI cJ cO adB adA lf bs a u.2.2) := hD
        exact hh_retS (w := fun (u : (Nat → Int64) × (Nat → Int64) × (Nat → Int32) × (Nat → LT)) => ([zAJ cJ adW 60 u.1, zAJ cJ adU 33 fu, zAJ cJ adG 60 u.2.1, zAI cI adN 6 u.2.2.1] ++ wB cI cJ cO adB adA lf bs a u.2.2.2)) ((u.1, fg, u.2.1, u.2.2)) hQ (⟨rfl, hsp⟩) (rfl) hx hb hr hlocks hP hK hD hS dL_step_346
    · skip
      refine lv_iload_n hx hb dL_step_304 rfl (lv_at hl 4 rfl) ?_
      refine lv_sipush (v := 10001) hx hb dL_step_305 (by decide) ?_
      refine lv_irem hx hb dL_step_308 (by decide) ?_
      refine hh_seti (y := (nI ((X % 10001)))) (lwMod (a := X) (b := 10001) (by omega) (by decide) (by decide) rfl) ?_
      refine lv_sipush (v := 5000) hx hb dL_step_309 (by decide) ?_
      refine lv_isub hx hb dL_step_312 ?_
      refine lv_goto (tgt := 321) hx hb dL_step_313 (by decide) ?_
      refine lv_iload_n hx hb dL_step_321 rfl (lv_at hl 4 rfl) ?_
      refine lv_iconst (v := 2) hx hb dL_step_322 (by decide) ?_
      refine lv_irem hx hb dL_step_323 (by decide) ?_
      refine hh_seti (y := (nI ((X % 2)))) (lwMod (a := X) (b := 2) (by omega) (by decide) (by decide) rfl) ?_
      refine lv_if_ne (tgt := 331) hx hb dL_step_324 (by decide) (fun h324 => ?_) (fun h324 => ?_)
      · skip
        refine lv_iload_n hx hb dL_step_331 rfl (lv_at hl 5 rfl) ?_
        refine lv_bipush (v := 9) hx hb dL_step_332 (by decide) ?_
        refine lv_idiv hx hb dL_step_334 (by decide) ?_
        refine hh_seti (y := (nI ((Y / 9)))) (lwDiv (a := Y) (b := 9) (by omega) (by decide) (by decide) rfl) ?_
        refine lv_sipush (v := 9001) hx hb dL_step_335 (by decide) ?_
        refine lv_irem hx hb dL_step_338 (by decide) ?_
        refine hh_seti (y := (nI ((((Y / 9)) % 9001)))) (lwMod (a := (Y / 9)) (b := 9001) (by omega) (by decide) (by decide) rfl) ?_
        refine lv_sipush (v := 4000) hx hb dL_step_339 (by decide) ?_
        refine lv_isub hx hb dL_step_342 ?_
        refine lw_RS (S := (Nat → Int64) × (Nat → Int32) × (Nat → LT)) (wl := []) (wr := ([zAJ cJ adW 60 fw, zAJ cJ adU 33 fu, zAJ cJ adG 60 fg, zAI cI adN 6 fn] ++ wB cI cJ cO adB adA lf bs a T)) (wq := fun u => ([zAJ cJ adW 60 u.1, zAJ cJ adU 33 fu, zAJ cJ adG 60 fg, zAI cI adN 6 u.2.1] ++ wB cI cJ cO adB adA lf bs a u.2.2)) (rest := []) (va_runS (As := [.ref adB, .ref adW, .ref adN, .int (nI k), .int ((nI ((Y % 40001))) - (20000 : Int32)), .int ((nI ((X % 10001))) - (5000 : Int32)), .int ((nI ((((Y / 9)) % 9001))) - (4000 : Int32))]) (rest := []) ⟨hx, hb, hml, hown, hts⟩ (c_L_gains l dC dI cI cJ cZ cO adB adA adW adU adG adN lf a bs T fw fu fg fn k ((nI ((Y % 40001))) - (20000 : Int32)) ((nI ((X % 10001))) - (5000 : Int32)) ((nI ((((Y / 9)) % 9001))) - (4000 : Int32)) _ hlf hk hR h15 (Gb_mk (bd_s (n := (Y % 40001)) (c := 20000) (C := 20000) rfl (by omega) (by omega)) (bd_s (n := (X % 10001)) (c := 5000) (C := 5000) rfl (by omega) (by omega)) (bd_s (n := (((Y / 9)) % 9001)) (c := 4000) (C := 4000) rfl (by omega) (by omega)) (by omega))) (va_cwS 7 hts (gd_S wd_2_137 wd_2_138 wd_1_0 wd_2_139) rfl rfl rfl (by decide +kernel) ⟨Nat.le_of_ble_eq_true rfl, Nat.le_of_ble_eq_true rfl⟩) (lw_S2 (wl := []) gN_c (fun U _ hW => gN_w hW hG) hK (List.Perm.refl _) hP hD) rfl rfl hl.1 rfl (lv_room (Nat.le_of_ble_eq_true rfl)) dL_step_343 hcs) hP hD hS hA (fun r u H locs hpost hP hD hS => ?_)
        obtain ⟨rfl, hsp⟩ := hpost
        have hP : va_P (dC, dI) vwCl ([zAJ cJ adW 60 u.1, zAJ cJ adU 33 fu, zAJ cJ adG 60 fg, zAI cI adN 6 u.2.1] ++ wB cI cJ cO adB adA lf bs a u.2.2) H := hP
        have hD : va_D A ([zAJ cJ adW 60 u.1, zAJ cJ adU 33 fu, zAJ cJ adG 60 fg, zAI cI adN 6 u.2.1] ++ wB cI cJ cO adB adA lf bs a u.2.2) := hD
        exact hh_retS (w := fun (u : (Nat → Int64) × (Nat → Int64) × (Nat → Int32) × (Nat → LT)) => ([zAJ cJ adW 60 u.1, zAJ cJ adU 33 fu, zAJ cJ adG 60 u.2.1, zAI cI adN 6 u.2.2.1] ++ wB cI cJ cO adB adA lf bs a u.2.2.2)) ((u.1, fg, u.2.1, u.2.2)) hQ (⟨rfl, hsp⟩) (rfl) hx hb hr hlocks hP hK hD hS dL_step_346
      · skip
        refine lv_iconst (v := 0) hx hb dL_step_327 (by decide) ?_
        refine lv_goto (tgt := 343) hx hb dL_step_328 (by decide) ?_
        refine lw_RS (S := (Nat → Int64) × (Nat → Int32) × (Nat → LT)) (wl := []) (wr := ([zAJ cJ adW 60 fw, zAJ cJ adU 33 fu, zAJ cJ adG 60 fg, zAI cI adN 6 fn] ++ wB cI cJ cO adB adA lf bs a T)) (wq := fun u => ([zAJ cJ adW 60 u.1, zAJ cJ adU 33 fu, zAJ cJ adG 60 fg, zAI cI adN 6 u.2.1] ++ wB cI cJ cO adB adA lf bs a u.2.2)) (rest := []) (va_runS (As := [.ref adB, .ref adW, .ref adN, .int (nI k), .int ((nI ((Y % 40001))) - (20000 : Int32)), .int ((nI ((X % 10001))) - (5000 : Int32)), .int (0 : Int32)]) (rest := []) ⟨hx, hb, hml, hown, hts⟩ (c_L_gains l dC dI cI cJ cZ cO adB adA adW adU adG adN lf a bs T fw fu fg fn k ((nI ((Y % 40001))) - (20000 : Int32)) ((nI ((X % 10001))) - (5000 : Int32)) (0 : Int32) _ hlf hk hR h15 (Gb_mk (bd_s (n := (Y % 40001)) (c := 20000) (C := 20000) rfl (by omega) (by omega)) (bd_s (n := (X % 10001)) (c := 5000) (C := 5000) rfl (by omega) (by omega)) (show (0 : Int32).toInt = (0 : Int) from by decide) (by omega))) (va_cwS 7 hts (gd_S wd_2_137 wd_2_138 wd_1_0 wd_2_139) rfl rfl rfl (by decide +kernel) ⟨Nat.le_of_ble_eq_true rfl, Nat.le_of_ble_eq_true rfl⟩) (lw_S2 (wl := []) gN_c (fun U _ hW => gN_w hW hG) hK (List.Perm.refl _) hP hD) rfl rfl hl.1 rfl (lv_room (Nat.le_of_ble_eq_true rfl)) dL_step_343 hcs) hP hD hS hA (fun r u H locs hpost hP hD hS => ?_)
        obtain ⟨rfl, hsp⟩ := hpost
        have hP : va_P (dC, dI) vwCl ([zAJ cJ adW 60 u.1, zAJ cJ adU 33 fu, zAJ cJ adG 60 fg, zAI cI adN 6 u.2.1] ++ wB cI cJ cO adB adA lf bs a u.2.2) H := hP
        have hD : va_D A ([zAJ cJ adW 60 u.1, zAJ cJ adU 33 fu, zAJ cJ adG 60 fg, zAI cI adN 6 u.2.1] ++ wB cI cJ cO adB adA lf bs a u.2.2) := hD
        exact hh_retS (w := fun (u : (Nat → Int64) × (Nat → Int64) × (Nat → Int32) × (Nat → LT)) => ([zAJ cJ adW 60 u.1, zAJ cJ adU 33 fu, zAJ cJ adG 60 u.2.1, zAI cI adN 6 u.2.2.1] ++ wB cI cJ cO adB adA lf bs a u.2.2.2)) ((u.1, fg, u.2.1, u.2.2)) hQ (⟨rfl, hsp⟩) (rfl) hx hb hr hlocks hP hK hD hS dL_step_346
