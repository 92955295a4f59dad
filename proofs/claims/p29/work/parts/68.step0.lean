set_option maxHeartbeats 4000000 in
set_option maxRecDepth 100000 in
theorem c_L_step_0 (l : Launch) (dC : Nat → ClassId) (dI : Nat → Nat → Nat) (cI cJ cZ cO : ClassId) (adB adA adW adU adG adN : Nat) (lf : Nat → Option Nat) (a : Nat → AT) (bs : Int32) (T : Nat → LT) (fw fu fg : Nat → Int64) (fn : Nat → Int32) (k X Y : Nat) (sz : Nat) (hlf : ∀ j : Nat, j < 3 → lf (nI j).toNatClampNeg = some (ya_adL (a j))) (hk : k < 3) (hXk : X % 3 = k) (hX : X < 1073741824) (hY : Y < 1073741824) (hR : RP k (T k) fw fu fg fn) (h15 : fw (20 * k + 15) = 0) : Met l yL_step (Cond.code yL_step cL_step 18 (some .boolean) :: wAll) ({ frames := 5, cells := 0, slots := 0, locals := 122 }) (va_Pc [.ref adB, .int (0 : Int32), .int (nI X), .int (nI Y), .ref adW, .ref adG, .ref adN] (gP (dC, dI) ([zAJ cJ adW 60 fw, zAJ cJ adU 33 fu, zAJ cJ adG 60 fg, zAI cI adN 6 fn] ++ wB cI cJ cO adB adA lf bs a T) (tyG cI cJ cZ cO) sz gN)) (va_Qi (fun r (u : (Nat → Int64) × (Nat → Int64) × (Nat → Int32) × (Nat → LT)) => r = 1 ∧ SPost k T fw fu fg fn u.1 u.2.1 u.2.2.1 u.2.2.2) (fun u t => gB (dC, dI) (va_A ([zAJ cJ adW 60 fw, zAJ cJ adU 33 fu, zAJ cJ adG 60 fg, zAI cI adN 6 fn] ++ wB cI cJ cO adB adA lf bs a T) sz) ([zAJ cJ adW 60 u.1, zAJ cJ adU 33 fu, zAJ cJ adG 60 u.2.1, zAI cI adN 6 u.2.2.1] ++ wB cI cJ cO adB adA lf bs a u.2.2.2) (tyG cI cJ cZ cO) t) (va_A ([zAJ cJ adW 60 fw, zAJ cJ adU 33 fu, zAJ cJ adG 60 fg, zAI cI adN 6 fn] ++ wB cI cJ cO adB adA lf bs a T) sz)) 0 0 (va_A ([zAJ cJ adW 60 fw, zAJ cJ adU 33 fu, zAJ cJ adG 60 fg, zAI cI adN 6 fn] ++ wB cI cJ cO adB adA lf bs a T) sz) := by
  refine Met.ofW (cc := cL_step) (maxL := 18) (ret := (some .boolean)) (by decide) rfl ?_
  intro p e s m args below meth c s₁ B hml hv
  obtain ⟨rfl, hsz, hP, hK, hD0, hG⟩ := hv
  have hx := B.exec
  have hb := B.bytes
  have hr := B.returns
  have hts := ht_of B.pre
  have hown : s.vm.findClass RL = some m.cls := findClass_of_methodNamed B.named
  have hlocks := B.notSynchronized
  subst hsz
  have hD := hD0.self (sz := s.heap.size)
  generalize hAe : va_A ([zAJ cJ adW 60 fw, zAJ cJ adU 33 fu, zAJ cJ adG 60 fg, zAI cI adN 6 fn] ++ wB cI cJ cO adB adA lf bs a T) s.heap.size = A at hD ⊢
  have hA : ∀ q : Nat, s.heap.size ≤ q → A q := fun q h => by rw [← hAe]; exact Or.inr h
  have hS : va_S A s.heap s.heap [] := va_S.rf
  have hl := lv_entry ([.ref adB, .int (0 : Int32), .int (nI X), .int (nI Y), .ref adW, .ref adG, .ref adN]) (n := 18) (Nat.le_of_ble_eq_true rfl)
  rw [lg_entry_eq]
  generalize (lg_sl ([.ref adB, .int (0 : Int32), .int (nI X), .int (nI Y), .ref adW, .ref adG, .ref adN]) ++ List.replicate (18 - (lg_sl ([.ref adB, .int (0 : Int32), .int (nI X), .int (nI Y), .ref adW, .ref adG, .ref adN])).length) Slot.unset).toArray = ls at hl ⊢
  have hl : lv_has ls 18 [(0, .ref adB), (1, .int (0 : Int32)), (2, .int (nI X)), (3, .int (nI Y)), (4, .ref adW), (5, .ref adG), (6, .ref adN)] := hl
  refine hh_name (fun Q hQ => ?_)
  have K := fx_mk hx hb hml hown hts hG hK hlf
  have hcs : (0 : Nat) ≤ 0 ∧ (0 : Nat) ≤ 0 := ⟨Nat.zero_le _, Nat.zero_le _⟩
  refine lv_iload_n hx hb dL_step_0 rfl (lv_at hl 2 rfl) ?_
  refine lv_iconst (v := 3) hx hb dL_step_1 (by decide) ?_
  refine lv_irem hx hb dL_step_2 (by decide) ?_
  refine hh_seti (y := (nI ((X % 3)))) (lwMod (a := X) (b := 3) (by omega) (by decide) (by decide) rfl) ?_
  refine hh_seti (y := nI k) (by rw [hXk]) ?_
  refine lv_istore (lv' := [(7, .int (nI k)), (0, .ref adB), (1, .int (0 : Int32)), (2, .int (nI X)), (3, .int (nI Y)), (4, .ref adW), (5, .ref adG), (6, .ref adN)]) hx hb dL_step_3 hl (by decide) rfl (fun ls hl => ?_)
  refine lv_bipush (v := 20) hx hb dL_step_5 (by decide) ?_
  refine lv_iload hx hb dL_step_7 (lv_at hl 0 rfl) ?_
  refine lv_imul hx hb dL_step_9 ?_
  refine hh_seti (y := (nI (20 * k))) (lwMul (a := 20) (b := k) (by omega)) ?_
  refine lv_istore (lv' := [(8, .int (nI (20 * k))), (7, .int (nI k)), (0, .ref adB), (1, .int (0 : Int32)), (2, .int (nI X)), (3, .int (nI Y)), (4, .ref adW), (5, .ref adG), (6, .ref adN)]) hx hb dL_step_10 hl (by decide) rfl (fun ls hl => ?_)
  refine lv_iload_n hx hb dL_step_12 rfl (lv_at hl 3 rfl) ?_
  refine lv_tableIn (off := 55) (tgt := 68) hx hb dL_step_13 (by decide) (by decide) rfl (by decide) ?_
  refine lv_aload hx hb dL_step_68 (lv_at hl 6 rfl) ?_
  refine lv_iload hx hb dL_step_70 (lv_at hl 0 rfl) ?_
  refine lv_iload_n hx hb dL_step_72 rfl (lv_at hl 5 rfl) ?_
  refine lv_sipush (v := 1900) hx hb dL_step_73 (by decide) ?_
  refine lv_irem hx hb dL_step_76 (by decide) ?_
  refine hh_seti (y := (nI ((Y % 1900)))) (lwMod (a := Y) (b := 1900) (by omega) (by decide) (by decide) rfl) ?_
  refine lv_sipush (v := 900) hx hb dL_step_77 (by decide) ?_
  refine lv_isub hx hb dL_step_80 ?_
  refine lv_i2l hx hb dL_step_81 rfl ?_
  refine lr_ls hx hb hK hP hD hS 0 1 (e0 := 20 * k) rfl rfl (by omega) (by decide) dL_step_82 (w1 := ([zAJ cJ adW 60 (vp_updL fw (20 * k) (((nI ((Y % 1900))) - (900 : Int32)).toInt64)), zAJ cJ adU 33 fu, zAJ cJ adG 60 fg, zAI cI adN 6 fn] ++ wB cI cJ cO adB adA lf bs a T)) rfl (fun H locs hP hD hS => ?_)
  refine lv_aload hx hb dL_step_83 (lv_at hl 6 rfl) ?_
  refine lv_iload hx hb dL_step_85 (lv_at hl 0 rfl) ?_
  refine lv_iconst (v := 1) hx hb dL_step_87 (by decide) ?_
  refine lv_iadd hx hb dL_step_88 ?_
  refine hh_seti (y := (nI (20 * k + 1))) (lwAdd (a := 20 * k) (b := 1) (by omega)) ?_
  refine lv_iload_n hx hb dL_step_89 rfl (lv_at hl 4 rfl) ?_
  refine lv_iconst (v := 3) hx hb dL_step_90 (by decide) ?_
  refine lv_idiv hx hb dL_step_91 (by decide) ?_
  refine hh_seti (y := (nI ((X / 3)))) (lwDiv (a := X) (b := 3) (by omega) (by decide) (by decide) rfl) ?_
  refine lv_sipush (v := 301) hx hb dL_step_92 (by decide) ?_
  refine lv_irem hx hb dL_step_95 (by decide) ?_
  refine hh_seti (y := (nI ((((X / 3)) % 301)))) (lwMod (a := (X / 3)) (b := 301) (by omega) (by decide) (by decide) rfl) ?_
  refine lv_sipush (v := 150) hx hb dL_step_96 (by decide) ?_
  refine lv_isub hx hb dL_step_99 ?_
  refine lv_i2l hx hb dL_step_100 rfl ?_
  refine lr_ls hx hb hK hP hD hS 0 1 (e0 := 20 * k + 1) rfl rfl (by omega) (by decide) dL_step_101 (w1 := ([zAJ cJ adW 60 (vp_updL (vp_updL fw (20 * k) (((nI ((Y % 1900))) - (900 : Int32)).toInt64)) (20 * k + 1) (((nI ((((X / 3)) % 301))) - (150 : Int32)).toInt64)), zAJ cJ adU 33 fu, zAJ cJ adG 60 fg, zAI cI adN 6 fn] ++ wB cI cJ cO adB adA lf bs a T)) rfl (fun H locs hP hD hS => ?_)
  refine lv_aload hx hb dL_step_102 (lv_at hl 6 rfl) ?_
  refine lv_iload hx hb dL_step_104 (lv_at hl 0 rfl) ?_
  refine lv_iconst (v := 2) hx hb dL_step_106 (by decide) ?_
  refine lv_iadd hx hb dL_step_107 ?_
  refine hh_seti (y := (nI (20 * k + 2))) (lwAdd (a := 20 * k) (b := 2) (by omega)) ?_
  refine lv_iload_n hx hb dL_step_108 rfl (lv_at hl 5 rfl) ?_
  refine lv_iconst (v := 3) hx hb dL_step_109 (by decide) ?_
  refine lv_irem hx hb dL_step_110 (by decide) ?_
  refine hh_seti (y := (nI ((Y % 3)))) (lwMod (a := Y) (b := 3) (by omega) (by decide) (by decide) rfl) ?_
  refine lv_if_ne (tgt := 130) hx hb dL_step_111 (by decide) (fun h111 => ?_) (fun h111 => ?_)
  · skip
    refine lv_bipush (v := 100) hx hb dL_step_130 (by decide) ?_
    refine lv_iload_n hx hb dL_step_132 rfl (lv_at hl 4 rfl) ?_
    refine lv_bipush (v := 9) hx hb dL_step_133 (by decide) ?_
    refine lv_idiv hx hb dL_step_135 (by decide) ?_
    refine hh_seti (y := (nI ((X / 9)))) (lwDiv (a := X) (b := 9) (by omega) (by decide) (by decide) rfl) ?_
    refine lv_sipush (v := 900) hx hb dL_step_136 (by decide) ?_
    refine lv_irem hx hb dL_step_139 (by decide) ?_
    refine hh_seti (y := (nI ((((X / 9)) % 900)))) (lwMod (a := (X / 9)) (b := 900) (by omega) (by decide) (by decide) rfl) ?_
    refine lv_iadd hx hb dL_step_140 ?_
    refine hh_seti (y := (nI ((((X / 9)) % 900) + 100))) (lwAdd (a := 100) (b := (((X / 9)) % 900)) (by omega)) ?_
    refine lv_i2l hx hb dL_step_141 rfl ?_
    refine lr_ls hx hb hK hP hD hS 0 1 (e0 := 20 * k + 2) rfl rfl (by omega) (by decide) dL_step_142 (w1 := ([zAJ cJ adW 60 (vp_updL (vp_updL (vp_updL fw (20 * k) (((nI ((Y % 1900))) - (900 : Int32)).toInt64)) (20 * k + 1) (((nI ((((X / 3)) % 301))) - (150 : Int32)).toInt64)) (20 * k + 2) ((nI ((((X / 9)) % 900) + 100)).toInt64)), zAJ cJ adU 33 fu, zAJ cJ adG 60 fg, zAI cI adN 6 fn] ++ wB cI cJ cO adB adA lf bs a T)) rfl (fun H locs hP hD hS => ?_)
    refine lv_aload hx hb dL_step_143 (lv_at hl 6 rfl) ?_
    refine lv_iload hx hb dL_step_145 (lv_at hl 0 rfl) ?_
    refine lv_iconst (v := 3) hx hb dL_step_147 (by decide) ?_
    refine lv_iadd hx hb dL_step_148 ?_
    refine hh_seti (y := (nI (20 * k + 3))) (lwAdd (a := 20 * k) (b := 3) (by omega)) ?_
    refine lv_iload_n hx hb dL_step_149 rfl (lv_at hl 5 rfl) ?_
    refine lv_sipush (v := 1900) hx hb dL_step_150 (by decide) ?_
    refine lv_idiv hx hb dL_step_153 (by decide) ?_
    refine hh_seti (y := (nI ((Y / 1900)))) (lwDiv (a := Y) (b := 1900) (by omega) (by decide) (by decide) rfl) ?_
    refine lv_bipush (v := 11) hx hb dL_step_154 (by decide) ?_
    refine lv_irem hx hb dL_step_156 (by decide) ?_
    refine hh_seti (y := (nI ((((Y / 1900)) % 11)))) (lwMod (a := (Y / 1900)) (b := 11) (by omega) (by decide) (by decide) rfl) ?_
    refine lv_i2l hx hb dL_step_157 rfl ?_
    refine lr_ls hx hb hK hP hD hS 0 1 (e0 := 20 * k + 3) rfl rfl (by omega) (by decide) dL_step_158 (w1 := ([zAJ cJ adW 60 (vp_updL (vp_updL (vp_updL (vp_updL fw (20 * k) (((nI ((Y % 1900))) - (900 : Int32)).toInt64)) (20 * k + 1) (((nI ((((X / 3)) % 301))) - (150 : Int32)).toInt64)) (20 * k + 2) ((nI ((((X / 9)) % 900) + 100)).toInt64)) (20 * k + 3) ((nI ((((Y / 1900)) % 11))).toInt64)), zAJ cJ adU 33 fu, zAJ cJ adG 60 fg, zAI cI adN 6 fn] ++ wB cI cJ cO adB adA lf bs a T)) rfl (fun H locs hP hD hS => ?_)
    refine lv_aload_n hx hb dL_step_159 rfl (lv_at hl 2 rfl) ?_
    refine lv_iload hx hb dL_step_160 (lv_at hl 1 rfl) ?_
    refine lv_aload hx hb dL_step_162 (lv_at hl 6 rfl) ?_
    refine lv_iload hx hb dL_step_164 (lv_at hl 0 rfl) ?_
    refine lr_ll hx hb hK hP 0 1 (e0 := 20 * k) rfl rfl (by omega) (by decide) dL_step_166 ?_
    refine hh_setl (y := ((nI ((Y % 1900))) - (900 : Int32)).toInt64) (((ul_ne _ _ (by omega)).trans ((ul_ne _ _ (by omega)).trans ((ul_ne _ _ (by omega)).trans (ul_eq _ _ _)))).symm) ?_
    refine lv_l2i hx hb dL_step_167 rfl ?_
    refine hh_seti (y := ((nI ((Y % 1900))) - (900 : Int32))) (t3264 _).symm ?_
    refine lv_aload hx hb dL_step_168 (lv_at hl 6 rfl) ?_
    refine lv_iload hx hb dL_step_170 (lv_at hl 0 rfl) ?_
    refine lv_iconst (v := 1) hx hb dL_step_172 (by decide) ?_
    refine lv_iadd hx hb dL_step_173 ?_
    refine hh_seti (y := (nI (20 * k + 1))) (lwAdd (a := 20 * k) (b := 1) (by omega)) ?_
    refine lr_ll hx hb hK hP 0 1 (e0 := 20 * k + 1) rfl rfl (by omega) (by decide) dL_step_174 ?_
    refine hh_setl (y := ((nI ((((X / 3)) % 301))) - (150 : Int32)).toInt64) (((ul_ne _ _ (by omega)).trans ((ul_ne _ _ (by omega)).trans (ul_eq _ _ _))).symm) ?_
    refine lv_l2i hx hb dL_step_175 rfl ?_
    refine hh_seti (y := ((nI ((((X / 3)) % 301))) - (150 : Int32))) (t3264 _).symm ?_
    refine lv_aload hx hb dL_step_176 (lv_at hl 6 rfl) ?_
    refine lv_iload hx hb dL_step_178 (lv_at hl 0 rfl) ?_
    refine lv_iconst (v := 2) hx hb dL_step_180 (by decide) ?_
    refine lv_iadd hx hb dL_step_181 ?_
    refine hh_seti (y := (nI (20 * k + 2))) (lwAdd (a := 20 * k) (b := 2) (by omega)) ?_
    refine lr_ll hx hb hK hP 0 1 (e0 := 20 * k + 2) rfl rfl (by omega) (by decide) dL_step_182 ?_
    refine hh_setl (y := (nI ((((X / 9)) % 900) + 100)).toInt64) (((ul_ne _ _ (by omega)).trans (ul_eq _ _ _)).symm) ?_
    refine lv_l2i hx hb dL_step_183 rfl ?_
    refine hh_seti (y := (nI ((((X / 9)) % 900) + 100))) (t3264 _).symm ?_
    refine lv_aload hx hb dL_step_184 (lv_at hl 6 rfl) ?_
    refine lv_iload hx hb dL_step_186 (lv_at hl 0 rfl) ?_
    refine lv_iconst (v := 3) hx hb dL_step_188 (by decide) ?_
    refine lv_iadd hx hb dL_step_189 ?_
    refine hh_seti (y := (nI (20 * k + 3))) (lwAdd (a := 20 * k) (b := 3) (by omega)) ?_
    refine lr_ll hx hb hK hP 0 1 (e0 := 20 * k + 3) rfl rfl (by omega) (by decide) dL_step_190 ?_
    refine hh_setl (y := (nI ((((Y / 1900)) % 11))).toInt64) ((ul_eq _ _ _).symm) ?_
    refine lv_l2i hx hb dL_step_191 rfl ?_
    refine hh_seti (y := (nI ((((Y / 1900)) % 11)))) (t3264 _).symm ?_
    refine s_setPlant (k := k) (a1v := ((nI ((Y % 1900))) - (900 : Int32))) (a2v := ((nI ((((X / 3)) % 301))) - (150 : Int32))) (bv := (nI ((((X / 9)) % 900) + 100))) (dtv := (nI ((((Y / 1900)) % 11)))) K hk (bd_lo (M := -2000) (bd_s (n := (Y % 1900)) (c := 900) (C := 900) rfl (by omega) (by omega)) (by decide) (by omega)) (bd_hi (M := 2000) (bd_s (n := (Y % 1900)) (c := 900) (C := 900) rfl (by omega) (by omega)) (by decide) (by omega)) (bd_lo (M := -1000) (bd_s (n := (((X / 3)) % 301)) (c := 150) (C := 150) rfl (by omega) (by omega)) (by decide) (by omega)) (bd_hi (M := 1000) (bd_s (n := (((X / 3)) % 301)) (c := 150) (C := 150) rfl (by omega) (by omega)) (by decide) (by omega)) (bd_lo (M := -2000) (nI_i (n := (((X / 9)) % 900) + 100) (by omega)) (by decide) (by omega)) (bd_hi (M := 2000) (nI_i (n := (((X / 9)) % 900) + 100) (by omega)) (by decide) (by omega)) (bd_lo (M := 0) (nI_i (n := (((Y / 1900)) % 11)) (by omega)) (by decide) (by omega)) (bd_hi (M := 10) (nI_i (n := (((Y / 1900)) % 11)) (by omega)) (by decide) (by omega)) ⟨Nat.le_of_ble_eq_true rfl, Nat.le_of_ble_eq_true rfl⟩ hcs (Nat.le_of_ble_eq_true rfl) hP hD hS hA hl.1 dL_step_192 (fun H locs hP hD hS => ?_)
    refine lv_iconst (v := 1) hx hb dL_step_195 (by decide) ?_
    exact hh_retS (w := fun (u : (Nat → Int64) × (Nat → Int64) × (Nat → Int32) × (Nat → LT)) => ([zAJ cJ adW 60 u.1, zAJ cJ adU 33 fu, zAJ cJ adG 60 u.2.1, zAI cI adN 6 u.2.2.1] ++ wB cI cJ cO adB adA lf bs a u.2.2.2)) (((vp_updL (vp_updL (vp_updL (vp_updL fw (20 * k) (((nI ((Y % 1900))) - (900 : Int32)).toInt64)) (20 * k + 1) (((nI ((((X / 3)) % 301))) - (150 : Int32)).toInt64)) (20 * k + 2) ((nI ((((X / 9)) % 900) + 100)).toInt64)) (20 * k + 3) ((nI ((((Y / 1900)) % 11))).toInt64)), fg, fn, (upT T k (lu_setPlant (T k) ((nI ((Y % 1900))) - (900 : Int32)) ((nI ((((X / 3)) % 301))) - (150 : Int32)) (nI ((((X / 9)) % 900) + 100)) (nI ((((Y / 1900)) % 11))))))) hQ (⟨rfl, SP_mk (op_setPlant hR (by rw [(bd_s (n := (Y % 1900)) (c := 900) (C := 900) rfl (by omega) (by omega))]; omega) (by rw [(bd_s (n := (((X / 3)) % 301)) (c := 150) (C := 150) rfl (by omega) (by omega))]; omega) (by rw [(nI_i (n := (((X / 9)) % 900) + 100) (by omega))]; omega) (by omega)) (by intro i hi; (try dsimp only); repeat rw [ul_ne _ _ (by omega)]) (fun _ _ => rfl) (fun _ _ _ => rfl)⟩) (rfl) hx hb hr hlocks hP hK hD hS dL_step_196
  · skip
    refine lv_iload_n hx hb dL_step_114 rfl (lv_at hl 4 rfl) ?_
    refine lv_bipush (v := 9) hx hb dL_step_115 (by decide) ?_
    refine lv_idiv hx hb dL_step_117 (by decide) ?_
    refine hh_seti (y := (nI ((X / 9)))) (lwDiv (a := X) (b := 9) (by omega) (by decide) (by decide) rfl) ?_
    refine lv_sipush (v := 4001) hx hb dL_step_118 (by decide) ?_
    refine lv_irem hx hb dL_step_121 (by decide) ?_
    refine hh_seti (y := (nI ((((X / 9)) % 4001)))) (lwMod (a := (X / 9)) (b := 4001) (by omega) (by decide) (by decide) rfl) ?_
    refine lv_sipush (v := 2000) hx hb dL_step_122 (by decide) ?_
    refine lv_isub hx hb dL_step_125 ?_
    refine lv_i2l hx hb dL_step_126 rfl ?_
    refine lv_goto (tgt := 142) hx hb dL_step_127 (by decide) ?_
    refine lr_ls hx hb hK hP hD hS 0 1 (e0 := 20 * k + 2) rfl rfl (by omega) (by decide) dL_step_142 (w1 := ([zAJ cJ adW 60 (vp_updL (vp_updL (vp_updL fw (20 * k) (((nI ((Y % 1900))) - (900 : Int32)).toInt64)) (20 * k + 1) (((nI ((((X / 3)) % 301))) - (150 : Int32)).toInt64)) (20 * k + 2) (((nI ((((X / 9)) % 4001))) - (2000 : Int32)).toInt64)), zAJ cJ adU 33 fu, zAJ cJ adG 60 fg, zAI cI adN 6 fn] ++ wB cI cJ cO adB adA lf bs a T)) rfl (fun H locs hP hD hS => ?_)
    refine lv_aload hx hb dL_step_143 (lv_at hl 6 rfl) ?_
    refine lv_iload hx hb dL_step_145 (lv_at hl 0 rfl) ?_
    refine lv_iconst (v := 3) hx hb dL_step_147 (by decide) ?_
    refine lv_iadd hx hb dL_step_148 ?_
    refine hh_seti (y := (nI (20 * k + 3))) (lwAdd (a := 20 * k) (b := 3) (by omega)) ?_
    refine lv_iload_n hx hb dL_step_149 rfl (lv_at hl 5 rfl) ?_
    refine lv_sipush (v := 1900) hx hb dL_step_150 (by decide) ?_
    refine lv_idiv hx hb dL_step_153 (by decide) ?_
    refine hh_seti (y := (nI ((Y / 1900)))) (lwDiv (a := Y) (b := 1900) (by omega) (by decide) (by decide) rfl) ?_
    refine lv_bipush (v := 11) hx hb dL_step_154 (by decide) ?_
    refine lv_irem hx hb dL_step_156 (by decide) ?_
    refine hh_seti (y := (nI ((((Y / 1900)) % 11)))) (lwMod (a := (Y / 1900)) (b := 11) (by omega) (by decide) (by decide) rfl) ?_
    refine lv_i2l hx hb dL_step_157 rfl ?_
    refine lr_ls hx hb hK hP hD hS 0 1 (e0 := 20 * k + 3) rfl rfl (by omega) (by decide) dL_step_158 (w1 := ([zAJ cJ adW 60 (vp_updL (vp_updL (vp_updL (vp_updL fw (20 * k) (((nI ((Y % 1900))) - (900 : Int32)).toInt64)) (20 * k + 1) (((nI ((((X / 3)) % 301))) - (150 : Int32)).toInt64)) (20 * k + 2) (((nI ((((X / 9)) % 4001))) - (2000 : Int32)).toInt64)) (20 * k + 3) ((nI ((((Y / 1900)) % 11))).toInt64)), zAJ cJ adU 33 fu, zAJ cJ adG 60 fg, zAI cI adN 6 fn] ++ wB cI cJ cO adB adA lf bs a T)) rfl (fun H locs hP hD hS => ?_)
    refine lv_aload_n hx hb dL_step_159 rfl (lv_at hl 2 rfl) ?_
    refine lv_iload hx hb dL_step_160 (lv_at hl 1 rfl) ?_
    refine lv_aload hx hb dL_step_162 (lv_at hl 6 rfl) ?_
    refine lv_iload hx hb dL_step_164 (lv_at hl 0 rfl) ?_
    refine lr_ll hx hb hK hP 0 1 (e0 := 20 * k) rfl rfl (by omega) (by decide) dL_step_166 ?_
    refine hh_setl (y := ((nI ((Y % 1900))) - (900 : Int32)).toInt64) (((ul_ne _ _ (by omega)).trans ((ul_ne _ _ (by omega)).trans ((ul_ne _ _ (by omega)).trans (ul_eq _ _ _)))).symm) ?_
    refine lv_l2i hx hb dL_step_167 rfl ?_
    refine hh_seti (y := ((nI ((Y % 1900))) - (900 : Int32))) (t3264 _).symm ?_
    refine lv_aload hx hb dL_step_168 (lv_at hl 6 rfl) ?_
    refine lv_iload hx hb dL_step_170 (lv_at hl 0 rfl) ?_
    refine lv_iconst (v := 1) hx hb dL_step_172 (by decide) ?_
    refine lv_iadd hx hb dL_step_173 ?_
    refine hh_seti (y := (nI (20 * k + 1))) (lwAdd (a := 20 * k) (b := 1) (by omega)) ?_
    refine lr_ll hx hb hK hP 0 1 (e0 := 20 * k + 1) rfl rfl (by omega) (by decide) dL_step_174 ?_
    refine hh_setl (y := ((nI ((((X / 3)) % 301))) - (150 : Int32)).toInt64) (((ul_ne _ _ (by omega)).trans ((ul_ne _ _ (by omega)).trans (ul_eq _ _ _))).symm) ?_
    refine lv_l2i hx hb dL_step_175 rfl ?_
    refine hh_seti (y := ((nI ((((X / 3)) % 301))) - (150 : Int32))) (t3264 _).symm ?_
    refine lv_aload hx hb dL_step_176 (lv_at hl 6 rfl) ?_
    refine lv_iload hx hb dL_step_178 (lv_at hl 0 rfl) ?_
    refine lv_iconst (v := 2) hx hb dL_step_180 (by decide) ?_
    refine lv_iadd hx hb dL_step_181 ?_
    refine hh_seti (y := (nI (20 * k + 2))) (lwAdd (a := 20 * k) (b := 2) (by omega)) ?_
    refine lr_ll hx hb hK hP 0 1 (e0 := 20 * k + 2) rfl rfl (by omega) (by decide) dL_step_182 ?_
    refine hh_setl (y := ((nI ((((X / 9)) % 4001))) - (2000 : Int32)).toInt64) (((ul_ne _ _ (by omega)).trans (ul_eq _ _ _)).symm) ?_
    refine lv_l2i hx hb dL_step_183 rfl ?_
    refine hh_seti (y := ((nI ((((X / 9)) % 4001))) - (2000 : Int32))) (t3264 _).symm ?_
    refine lv_aload hx hb dL_step_184 (lv_at hl 6 rfl) ?_
    refine lv_iload hx hb dL_step_186 (lv_at hl 0 rfl) ?_
    refine lv_iconst (v := 3) hx hb dL_step_188 (by decide) ?_
    refine lv_iadd hx hb dL_step_189 ?_
    refine hh_seti (y := (nI (20 * k + 3))) (lwAdd (a := 20 * k) (b := 3) (by omega)) ?_
    refine lr_ll hx hb hK hP 0 1 (e0 := 20 * k + 3) rfl rfl (by omega) (by decide) dL_step_190 ?_
    refine hh_setl (y := (nI ((((Y / 1900)) % 11))).toInt64) ((ul_eq _ _ _).symm) ?_
    refine lv_l2i hx hb dL_step_191 rfl ?_
    refine hh_seti (y := (nI ((((Y / 1900)) % 11)))) (t3264 _).symm ?_
    refine s_setPlant (k := k) (a1v := ((nI ((Y % 1900))) - (900 : Int32))) (a2v := ((nI ((((X / 3)) % 301))) - (150 : Int32))) (bv := ((nI ((((X / 9)) % 4001))) - (2000 : Int32))) (dtv := (nI ((((Y / 1900)) % 11)))) K hk (bd_lo (M := -2000) (bd_s (n := (Y % 1900)) (c := 900) (C := 900) rfl (by omega) (by omega)) (by decide) (by omega)) (bd_hi (M := 2000) (bd_s (n := (Y % 1900)) (c := 900) (C := 900) rfl (by omega) (by omega)) (by decide) (by omega)) (bd_lo (M := -1000) (bd_s (n := (((X / 3)) % 301)) (c := 150) (C := 150) rfl (by omega) (by omega)) (by decide) (by omega)) (bd_hi (M := 1000) (bd_s (n := (((X / 3)) % 301)) (c := 150) (C := 150) rfl (by omega) (by omega)) (by decide) (by omega)) (bd_lo (M := -2000) (bd_s (n := (((X / 9)) % 4001)) (c := 2000) (C := 2000) rfl (by omega) (by omega)) (by decide) (by omega)) (bd_hi (M := 2000) (bd_s (n := (((X / 9)) % 4001)) (c := 2000) (C := 2000) rfl (by omega) (by omega)) (by decide) (by omega)) (bd_lo (M := 0) (nI_i (n := (((Y / 1900)) % 11)) (by omega)) (by decide) (by omega)) (bd_hi (M := 10) (nI_i (n := (((Y / 1900)) % 11)) (by omega)) (by decide) (by omega)) ⟨Nat.le_of_ble_eq_true rfl, Nat.le_of_ble_eq_true rfl⟩ hcs (Nat.le_of_ble_eq_true rfl) hP hD hS hA hl.1 dL_step_192 (fun H locs hP hD hS => ?_)
    refine lv_iconst (v := 1) hx hb dL_step_195 (by decide) ?_
    exact hh_retS (w := fun (u : (Nat → Int64) × (Nat → Int64) × (Nat → Int32) × (Nat → LT)) => ([zAJ cJ adW 60 u.1, zAJ cJ adU 33 fu, zAJ cJ adG 60 u.2.1, zAI cI adN 6 u.2.2.1] ++ wB cI cJ cO adB adA lf bs a u.2.2.2)) (((vp_updL (vp_updL (vp_updL (vp_updL fw (20 * k) (((nI ((Y % 1900))) - (900 : Int32)).toInt64)) (20 * k + 1) (((nI ((((X / 3)) % 301))) - (150 : Int32)).toInt64)) (20 * k + 2) (((nI ((((X / 9)) % 4001))) - (2000 : Int32)).toInt64)) (20 * k + 3) ((nI ((((Y / 1900)) % 11))).toInt64)), fg, fn, (upT T k (lu_setPlant (T k) ((nI ((Y % 1900))) - (900 : Int32)) ((nI ((((X / 3)) % 301))) - (150 : Int32)) ((nI ((((X / 9)) % 4001))) - (2000 : Int32)) (nI ((((Y / 1900)) % 11))))))) hQ (⟨rfl, SP_mk (op_setPlant hR (by rw [(bd_s (n := (Y % 1900)) (c := 900) (C := 900) rfl (by omega) (by omega))]; omega) (by rw [(bd_s (n := (((X / 3)) % 301)) (c := 150) (C := 150) rfl (by omega) (by omega))]; omega) (by rw [(bd_s (n := (((X / 9)) % 4001)) (c := 2000) (C := 2000) rfl (by omega) (by omega))]; omega) (by omega)) (by intro i hi; (try dsimp only); repeat rw [ul_ne _ _ (by omega)]) (fun _ _ => rfl) (fun _ _ _ => rfl)⟩) (rfl) hx hb hr hlocks hP hK hD hS dL_step_196
