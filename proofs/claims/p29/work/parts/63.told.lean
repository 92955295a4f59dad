set_option maxHeartbeats 4000000 in
set_option maxRecDepth 100000 in
theorem c_L_isTold (l : Launch) (dC : Nat → ClassId) (dI : Nat → Nat → Nat) (cI cJ cZ cO : ClassId) (adB adA adW adU adG adN : Nat) (lf : Nat → Option Nat) (a : Nat → AT) (bs : Int32) (T : Nat → LT) (fw fu fg : Nat → Int64) (fn : Nat → Int32) (k : Nat) (he : Int32) (sz : Nat) (hlf : ∀ j : Nat, j < 3 → lf (nI j).toNatClampNeg = some (ya_adL (a j))) (hk : k < 3) (ht : Told (T k) he) : Met l yL_isTold (Cond.code yL_isTold cL_isTold 13 (some .boolean) :: wAll) ({ frames := 4, cells := 0, slots := 0, locals := 92 }) (va_Pc [.ref adB, .int (nI k), .int he] (gP (dC, dI) ([zAJ cJ adW 60 fw, zAJ cJ adU 33 fu, zAJ cJ adG 60 fg, zAI cI adN 6 fn] ++ wB cI cJ cO adB adA lf bs a T) (tyG cI cJ cZ cO) sz gN)) (va_Qi (fun r (u : Unit) => r = 1) (fun u t => gB (dC, dI) (va_A ([zAJ cJ adW 60 fw, zAJ cJ adU 33 fu, zAJ cJ adG 60 fg, zAI cI adN 6 fn] ++ wB cI cJ cO adB adA lf bs a T) sz) ([zAJ cJ adW 60 fw, zAJ cJ adU 33 fu, zAJ cJ adG 60 fg, zAI cI adN 6 fn] ++ wB cI cJ cO adB adA lf bs a T) (tyG cI cJ cZ cO) t) (va_A ([zAJ cJ adW 60 fw, zAJ cJ adU 33 fu, zAJ cJ adG 60 fg, zAI cI adN 6 fn] ++ wB cI cJ cO adB adA lf bs a T) sz)) 0 0 (va_A ([zAJ cJ adW 60 fw, zAJ cJ adU 33 fu, zAJ cJ adG 60 fg, zAI cI adN 6 fn] ++ wB cI cJ cO adB adA lf bs a T) sz) := by
  refine Met.ofW (cc := cL_isTold) (maxL := 13) (ret := (some .boolean)) (by decide) rfl ?_
  intro p e s m args below meth c s₁ B hml hv
  obtain ⟨rfl, hsz, hP, hK, hD0, hG⟩ := hv
  have hx := B.exec
  have hb := B.bytes
  have hr := B.returns
  have hts := ht_of B.pre
  have hown : s.vm.findClass RL = some m.cls := findClass_of_methodNamed B.named
  have hlocks := B.notSynchronized
  subst hsz
  have hD := hD0.self (sz := s.heap.size)
  generalize hAe : va_A ([zAJ cJ adW 60 fw, zAJ cJ adU 33 fu, zAJ cJ adG 60 fg, zAI cI adN 6 fn] ++ wB cI cJ cO adB adA lf bs a T) s.heap.size = A at hD ⊢
  have hA : ∀ q : Nat, s.heap.size ≤ q → A q := fun q h => by rw [← hAe]; exact Or.inr h
  have hS : va_S A s.heap s.heap [] := va_S.rf
  have hl := lv_entry ([.ref adB, .int (nI k), .int he]) (n := 13) (Nat.le_of_ble_eq_true rfl)
  rw [lg_entry_eq]
  generalize (lg_sl ([.ref adB, .int (nI k), .int he]) ++ List.replicate (13 - (lg_sl ([.ref adB, .int (nI k), .int he])).length) Slot.unset).toArray = ls at hl ⊢
  have hl : lv_has ls 13 [(0, .ref adB), (1, .int (nI k)), (2, .int he)] := hl
  refine hh_name (fun Q hQ => ?_)
  have K := fx_mk hx hb hml hown hts hG hK hlf
  have hcs : (0 : Nat) ≤ 0 ∧ (0 : Nat) ≤ 0 := ⟨Nat.zero_le _, Nat.zero_le _⟩
  refine lv_aload_n hx hb dL_isTold_0 rfl (lv_at hl 0 rfl) ?_
  refine lv_iload_n hx hb dL_isTold_1 rfl (lv_at hl 1 rfl) ?_
  refine s_swing (k := k)  K hk (td_sw ht) ⟨Nat.le_of_ble_eq_true rfl, Nat.le_of_ble_eq_true rfl⟩ hcs (Nat.le_of_ble_eq_true rfl) hP hD hS hA hl.1 dL_isTold_2 (fun H locs hP hD hS => ?_)
  refine hh_setl (y := (yl_rsw (T k))) (rfl) ?_
  refine lv_lstore_n (lv' := [(3, .long (yl_rsw (T k))), (0, .ref adB), (1, .int (nI k)), (2, .int he)]) hx hb dL_isTold_5 rfl hl (by decide) rfl (fun ls hl => ?_)
  refine lv_aload_n hx hb dL_isTold_6 rfl (lv_at hl 1 rfl) ?_
  refine lv_iload_n hx hb dL_isTold_7 rfl (lv_at hl 2 rfl) ?_
  refine s_period (k := k)  K hk (td_pd ht) ⟨Nat.le_of_ble_eq_true rfl, Nat.le_of_ble_eq_true rfl⟩ hcs (Nat.le_of_ble_eq_true rfl) hP hD hS hA hl.1 dL_isTold_8 (fun H locs hP hD hS => ?_)
  refine hh_seti (y := (yl_rpe (T k))) (rfl) ?_
  refine lv_istore (lv' := [(5, .int (yl_rpe (T k))), (3, .long (yl_rsw (T k))), (0, .ref adB), (1, .int (nI k)), (2, .int he)]) hx hb dL_isTold_11 hl (by decide) rfl (fun ls hl => ?_)
  refine lv_lload_n hx hb dL_isTold_13 rfl (lv_at hl 1 rfl) ?_
  refine lv_lconst (v := 0) hx hb dL_isTold_14 (by decide) ?_
  refine hh_clt (tgt := 33) hx hb dL_isTold_15 dL_isTold_16 (by decide) (fun h9 => absurd h9 (td_nn ht)) (fun _ => ?_)
  refine lv_iload hx hb dL_isTold_19 (lv_at hl 0 rfl) ?_
  refine lv_iconst (v := 2) hx hb dL_isTold_21 (by decide) ?_
  refine lv_icmp_lt (tgt := 33) hx hb dL_isTold_22 (by decide) (fun h9 => absurd h9 ((td_pe ht).1)) (fun _ => ?_)
  refine lv_iload hx hb dL_isTold_25 (lv_at hl 0 rfl) ?_
  refine lv_sipush (v := 200) hx hb dL_isTold_27 (by decide) ?_
  refine lv_icmp_le (tgt := 35) hx hb dL_isTold_30 (by decide) (fun _ => ?_) (fun h9 => absurd ((td_pe ht).2) h9)
  refine lv_lload_n hx hb dL_isTold_35 rfl (lv_at hl 1 rfl) ?_
  refine lv_lconst (v := 0) hx hb dL_isTold_36 (by decide) ?_
  refine hh_cne (tgt := 43) hx hb dL_isTold_37 dL_isTold_38 (by decide) (fun h0 => ?_) (fun h0 => ?_)
  · skip
    refine lv_aload_n hx hb dL_isTold_43 rfl (lv_at hl 2 rfl) ?_
    refine lv_iload_n hx hb dL_isTold_44 rfl (lv_at hl 3 rfl) ?_
    refine s_ultimateGain (k := k)  K hk (td_le ht) (td_ug ht h0) ⟨Nat.le_of_ble_eq_true rfl, Nat.le_of_ble_eq_true rfl⟩ hcs (Nat.le_of_ble_eq_true rfl) hP hD hS hA hl.1 dL_isTold_45 (fun H locs hP hD hS => ?_)
    refine lv_i2l hx hb dL_isTold_48 rfl ?_
    refine lv_lstore (lv' := [(6, .long (lr_ultimateGain (T k)).toInt64), (5, .int (yl_rpe (T k))), (3, .long (yl_rsw (T k))), (0, .ref adB), (1, .int (nI k)), (2, .int he)]) hx hb dL_isTold_49 hl (by decide) rfl (fun ls hl => ?_)
    refine lv_lload hx hb dL_isTold_51 (lv_at hl 0 rfl) ?_
    refine lv_ldc2 (v := 904000) hx hb hown (hts _ wd_3_211) dL_isTold_53 ?_
    refine lv_iload_n hx hb dL_isTold_56 rfl (lv_at hl 5 rfl) ?_
    refine lv_i2l hx hb dL_isTold_57 rfl ?_
    refine lv_lmul hx hb dL_isTold_58 ?_
    refine lv_ldc2 (v := 355) hx hb hown (hts _ wd_3_212) dL_isTold_59 ?_
    refine lv_lload_n hx hb dL_isTold_62 rfl (lv_at hl 2 rfl) ?_
    refine lv_lmul hx hb dL_isTold_63 ?_
    refine lv_ldiv hx hb dL_isTold_64 (td_z ht h0) ?_
    refine hh_cne (tgt := 73) hx hb dL_isTold_65 dL_isTold_66 (by decide) (fun h9 => absurd (td_g ht h0) h9) (fun _ => ?_)
    refine lv_iconst (v := 1) hx hb dL_isTold_69 (by decide) ?_
    refine lv_goto (tgt := 74) hx hb dL_isTold_70 (by decide) ?_
    refine lv_istore (lv' := [(8, .int (1 : Int32)), (6, .long (lr_ultimateGain (T k)).toInt64), (5, .int (yl_rpe (T k))), (3, .long (yl_rsw (T k))), (0, .ref adB), (1, .int (nI k)), (2, .int he)]) hx hb dL_isTold_74 hl (by decide) rfl (fun ls hl => ?_)
    refine lv_ldc2 (v := 6) hx hb hown (hts _ wd_3_213) dL_isTold_76 ?_
    refine lv_lload hx hb dL_isTold_79 (lv_at hl 1 rfl) ?_
    refine lv_lmul hx hb dL_isTold_81 ?_
    refine lv_ldc2 (v := 10) hx hb hown (hts _ wd_3_214) dL_isTold_82 ?_
    refine lv_ldiv hx hb dL_isTold_85 (by decide) ?_
    refine lv_lstore (lv' := [(9, .long (((6 : Int64) * ((lr_ultimateGain (T k)).toInt64)) / (10 : Int64))), (8, .int (1 : Int32)), (6, .long (lr_ultimateGain (T k)).toInt64), (5, .int (yl_rpe (T k))), (3, .long (yl_rsw (T k))), (0, .ref adB), (1, .int (nI k)), (2, .int he)]) hx hb dL_isTold_86 hl (by decide) rfl (fun ls hl => ?_)
    refine lv_ldc2 (v := 100) hx hb hown (hts _ wd_3_215) dL_isTold_88 ?_
    refine lv_lload hx hb dL_isTold_91 (lv_at hl 2 rfl) ?_
    refine lv_lmul hx hb dL_isTold_93 ?_
    refine lv_ldc2 (v := 484) hx hb hown (hts _ wd_3_216) dL_isTold_94 ?_
    refine lv_iload hx hb dL_isTold_97 (lv_at hl 3 rfl) ?_
    refine lv_i2l hx hb dL_isTold_99 rfl ?_
    refine lv_lmul hx hb dL_isTold_100 ?_
    refine lv_ldiv hx hb dL_isTold_101 (td_z2 ht) ?_
    refine lv_lstore (lv' := [(11, .long (((100 : Int64) * ((lr_ultimateGain (T k)).toInt64)) / ((484 : Int64) * ((yl_rpe (T k)).toInt64)))), (9, .long (((6 : Int64) * ((lr_ultimateGain (T k)).toInt64)) / (10 : Int64))), (8, .int (1 : Int32)), (6, .long (lr_ultimateGain (T k)).toInt64), (5, .int (yl_rpe (T k))), (3, .long (yl_rsw (T k))), (0, .ref adB), (1, .int (nI k)), (2, .int he)]) hx hb dL_isTold_102 hl (by decide) rfl (fun ls hl => ?_)
    refine lv_iload hx hb dL_isTold_104 (lv_at hl 2 rfl) ?_
    refine lv_if_eq (tgt := 193) hx hb dL_isTold_106 (by decide) (fun h9 => absurd h9 (by decide)) (fun _ => ?_)
    refine lv_aload_n hx hb dL_isTold_109 rfl (lv_at hl 6 rfl) ?_
    refine lv_iload_n hx hb dL_isTold_110 rfl (lv_at hl 7 rfl) ?_
    refine lv_iconst (v := 0) hx hb dL_isTold_111 (by decide) ?_
    refine lv_iconst (v := 0) hx hb dL_isTold_112 (by decide) ?_
    refine s_proposed (k := k) (ruv := (0 : Int32)) (wh := (0 : Int32)) K hk (td_le ht) (by decide) (by decide) (by decide) (by decide) (td_pr ht h0) ⟨Nat.le_of_ble_eq_true rfl, Nat.le_of_ble_eq_true rfl⟩ hcs (Nat.le_of_ble_eq_true rfl) hP hD hS hA hl.1 dL_isTold_113 (fun H locs hP hD hS => ?_)
    refine lv_i2l hx hb dL_isTold_116 rfl ?_
    refine lv_lload hx hb dL_isTold_117 (lv_at hl 1 rfl) ?_
    refine lv_ldc2 (v := 20000) hx hb hown (hts _ wd_4_6) dL_isTold_119 ?_
    refine hh_cge (tgt := 131) hx hb dL_isTold_122 dL_isTold_123 (by decide) (fun hp => ?_) (fun hp => ?_)
    · skip
      refine lv_ldc2 (v := 20000) hx hb hown (hts _ wd_4_6) dL_isTold_131 ?_
      refine hh_cne (tgt := 193) hx hb dL_isTold_134 dL_isTold_135 (by decide) (fun h9 => absurd ((td_p ht h0).1 hp) h9) (fun _ => ?_)
      refine lv_aload_n hx hb dL_isTold_138 rfl (lv_at hl 6 rfl) ?_
      refine lv_iload_n hx hb dL_isTold_139 rfl (lv_at hl 7 rfl) ?_
      refine lv_iconst (v := 1) hx hb dL_isTold_140 (by decide) ?_
      refine lv_iconst (v := 1) hx hb dL_isTold_141 (by decide) ?_
      refine s_proposed (k := k) (ruv := (1 : Int32)) (wh := (1 : Int32)) K hk (td_le ht) (by decide) (by decide) (by decide) (by decide) (td_pr ht h0) ⟨Nat.le_of_ble_eq_true rfl, Nat.le_of_ble_eq_true rfl⟩ hcs (Nat.le_of_ble_eq_true rfl) hP hD hS hA hl.1 dL_isTold_142 (fun H locs hP hD hS => ?_)
      refine lv_i2l hx hb dL_isTold_145 rfl ?_
      refine lv_lload hx hb dL_isTold_146 (lv_at hl 0 rfl) ?_
      refine lv_ldc2 (v := 5000) hx hb hown (hts _ wd_4_7) dL_isTold_148 ?_
      refine hh_cge (tgt := 160) hx hb dL_isTold_151 dL_isTold_152 (by decide) (fun hq => ?_) (fun hq => ?_)
      · skip
        refine lv_ldc2 (v := 5000) hx hb hown (hts _ wd_4_7) dL_isTold_160 ?_
        refine hh_cne (tgt := 193) hx hb dL_isTold_163 dL_isTold_164 (by decide) (fun h9 => absurd ((td_i ht h0).1 hq) h9) (fun _ => ?_)
        refine lv_aload_n hx hb dL_isTold_167 rfl (lv_at hl 6 rfl) ?_
        refine lv_iload_n hx hb dL_isTold_168 rfl (lv_at hl 7 rfl) ?_
        refine lv_iconst (v := 0) hx hb dL_isTold_169 (by decide) ?_
        refine lv_iconst (v := 2) hx hb dL_isTold_170 (by decide) ?_
        refine s_proposed (k := k) (ruv := (0 : Int32)) (wh := (2 : Int32)) K hk (td_le ht) (by decide) (by decide) (by decide) (by decide) (td_pr ht h0) ⟨Nat.le_of_ble_eq_true rfl, Nat.le_of_ble_eq_true rfl⟩ hcs (Nat.le_of_ble_eq_true rfl) hP hD hS hA hl.1 dL_isTold_171 (fun H locs hP hD hS => ?_)
        refine lv_if_lt (tgt := 193) hx hb dL_isTold_174 (by decide) (fun h9 => absurd h9 ((td_d ht h0).1)) (fun _ => ?_)
        refine lv_aload_n hx hb dL_isTold_177 rfl (lv_at hl 6 rfl) ?_
        refine lv_iload_n hx hb dL_isTold_178 rfl (lv_at hl 7 rfl) ?_
        refine lv_iconst (v := 0) hx hb dL_isTold_179 (by decide) ?_
        refine lv_iconst (v := 2) hx hb dL_isTold_180 (by decide) ?_
        refine s_proposed (k := k) (ruv := (0 : Int32)) (wh := (2 : Int32)) K hk (td_le ht) (by decide) (by decide) (by decide) (by decide) (td_pr ht h0) ⟨Nat.le_of_ble_eq_true rfl, Nat.le_of_ble_eq_true rfl⟩ hcs (Nat.le_of_ble_eq_true rfl) hP hD hS hA hl.1 dL_isTold_181 (fun H locs hP hD hS => ?_)
        refine lv_ldc (v := 50000) hx hb hown (hts _ wd_4_8) dL_isTold_184 ?_
        refine lv_icmp_gt (tgt := 193) hx hb dL_isTold_186 (by decide) (fun h9 => absurd h9 ((td_d ht h0).2)) (fun _ => ?_)
        refine lv_iconst (v := 1) hx hb dL_isTold_189 (by decide) ?_
        refine lv_goto (tgt := 194) hx hb dL_isTold_190 (by decide) ?_
        exact hh_retS (w := fun (u : Unit) => ([zAJ cJ adW 60 fw, zAJ cJ adU 33 fu, zAJ cJ adG 60 fg, zAI cI adN 6 fn] ++ wB cI cJ cO adB adA lf bs a T)) (()) hQ (rfl) (rfl) hx hb hr hlocks hP hK hD hS dL_isTold_194
      · skip
        refine lv_lload hx hb dL_isTold_155 (lv_at hl 0 rfl) ?_
        refine lv_goto (tgt := 163) hx hb dL_isTold_157 (by decide) ?_
        refine hh_cne (tgt := 193) hx hb dL_isTold_163 dL_isTold_164 (by decide) (fun h9 => absurd ((td_i ht h0).2 hq) h9) (fun _ => ?_)
        refine lv_aload_n hx hb dL_isTold_167 rfl (lv_at hl 6 rfl) ?_
        refine lv_iload_n hx hb dL_isTold_168 rfl (lv_at hl 7 rfl) ?_
        refine lv_iconst (v := 0) hx hb dL_isTold_169 (by decide) ?_
        refine lv_iconst (v := 2) hx hb dL_isTold_170 (by decide) ?_
        refine s_proposed (k := k) (ruv := (0 : Int32)) (wh := (2 : Int32)) K hk (td_le ht) (by decide) (by decide) (by decide) (by decide) (td_pr ht h0) ⟨Nat.le_of_ble_eq_true rfl, Nat.le_of_ble_eq_true rfl⟩ hcs (Nat.le_of_ble_eq_true rfl) hP hD hS hA hl.1 dL_isTold_171 (fun H locs hP hD hS => ?_)
        refine lv_if_lt (tgt := 193) hx hb dL_isTold_174 (by decide) (fun h9 => absurd h9 ((td_d ht h0).1)) (fun _ => ?_)
        refine lv_aload_n hx hb dL_isTold_177 rfl (lv_at hl 6 rfl) ?_
        refine lv_iload_n hx hb dL_isTold_178 rfl (lv_at hl 7 rfl) ?_
        refine lv_iconst (v := 0) hx hb dL_isTold_179 (by decide) ?_
        refine lv_iconst (v := 2) hx hb dL_isTold_180 (by decide) ?_
        refine s_proposed (k := k) (ruv := (0 : Int32)) (wh := (2 : Int32)) K hk (td_le ht) (by decide) (by decide) (by decide) (by decide) (td_pr ht h0) ⟨Nat.le_of_ble_eq_true rfl, Nat.le_of_ble_eq_true rfl⟩ hcs (Nat.le_of_ble_eq_true rfl) hP hD hS hA hl.1 dL_isTold_181 (fun H locs hP hD hS => ?_)
        refine lv_ldc (v := 50000) hx hb hown (hts _ wd_4_8) dL_isTold_184 ?_
        refine lv_icmp_gt (tgt := 193) hx hb dL_isTold_186 (by decide) (fun h9 => absurd h9 ((td_d ht h0).2)) (fun _ => ?_)
        refine lv_iconst (v := 1) hx hb dL_isTold_189 (by decide) ?_
        refine lv_goto (tgt := 194) hx hb dL_isTold_190 (by decide) ?_
        exact hh_retS (w := fun (u : Unit) => ([zAJ cJ adW 60 fw, zAJ cJ adU 33 fu, zAJ cJ adG 60 fg, zAI cI adN 6 fn] ++ wB cI cJ cO adB adA lf bs a T)) (()) hQ (rfl) (rfl) hx hb hr hlocks hP hK hD hS dL_isTold_194
    · skip
      refine lv_lload hx hb dL_isTold_126 (lv_at hl 1 rfl) ?_
      refine lv_goto (tgt := 134) hx hb dL_isTold_128 (by decide) ?_
      refine hh_cne (tgt := 193) hx hb dL_isTold_134 dL_isTold_135 (by decide) (fun h9 => absurd ((td_p ht h0).2 hp) h9) (fun _ => ?_)
      refine lv_aload_n hx hb dL_isTold_138 rfl (lv_at hl 6 rfl) ?_
      refine lv_iload_n hx hb dL_isTold_139 rfl (lv_at hl 7 rfl) ?_
      refine lv_iconst (v := 1) hx hb dL_isTold_140 (by decide) ?_
      refine lv_iconst (v := 1) hx hb dL_isTold_141 (by decide) ?_
      refine s_proposed (k := k) (ruv := (1 : Int32)) (wh := (1 : Int32)) K hk (td_le ht) (by decide) (by decide) (by decide) (by decide) (td_pr ht h0) ⟨Nat.le_of_ble_eq_true rfl, Nat.le_of_ble_eq_true rfl⟩ hcs (Nat.le_of_ble_eq_true rfl) hP hD hS hA hl.1 dL_isTold_142 (fun H locs hP hD hS => ?_)
      refine lv_i2l hx hb dL_isTold_145 rfl ?_
      refine lv_lload hx hb dL_isTold_146 (lv_at hl 0 rfl) ?_
      refine lv_ldc2 (v := 5000) hx hb hown (hts _ wd_4_7) dL_isTold_148 ?_
      refine hh_cge (tgt := 160) hx hb dL_isTold_151 dL_isTold_152 (by decide) (fun hq => ?_) (fun hq => ?_)
      · skip
        refine lv_ldc2 (v := 5000) hx hb hown (hts _ wd_4_7) dL_isTold_160 ?_
        refine hh_cne (tgt := 193) hx hb dL_isTold_163 dL_isTold_164 (by decide) (fun h9 => absurd ((td_i ht h0).1 hq) h9) (fun _ => ?_)
        refine lv_aload_n hx hb dL_isTold_167 rfl (lv_at hl 6 rfl) ?_
        refine lv_iload_n hx hb dL_isTold_168 rfl (lv_at hl 7 rfl) ?_
        refine lv_iconst (v := 0) hx hb dL_isTold_169 (by decide) ?_
        refine lv_iconst (v := 2) hx hb dL_isTold_170 (by decide) ?_
        refine s_proposed (k := k) (ruv := (0 : Int32)) (wh := (2 : Int32)) K hk (td_le ht) (by decide) (by decide) (by decide) (by decide) (td_pr ht h0) ⟨Nat.le_of_ble_eq_true rfl, Nat.le_of_ble_eq_true rfl⟩ hcs (Nat.le_of_ble_eq_true rfl) hP hD hS hA hl.1 dL_isTold_171 (fun H locs hP hD hS => ?_)
        refine lv_if_lt (tgt := 193) hx hb dL_isTold_174 (by decide) (fun h9 => absurd h9 ((td_d ht h0).1)) (fun _ => ?_)
        refine lv_aload_n hx hb dL_isTold_177 rfl (lv_at hl 6 rfl) ?_
        refine lv_iload_n hx hb dL_isTold_178 rfl (lv_at hl 7 rfl) ?_
        refine lv_iconst (v := 0) hx hb dL_isTold_179 (by decide) ?_
        refine lv_iconst (v := 2) hx hb dL_isTold_180 (by decide) ?_
        refine s_proposed (k := k) (ruv := (0 : Int32)) (wh := (2 : Int32)) K hk (td_le ht) (by decide) (by decide) (by decide) (by decide) (td_pr ht h0) ⟨Nat.le_of_ble_eq_true rfl, Nat.le_of_ble_eq_true rfl⟩ hcs (Nat.le_of_ble_eq_true rfl) hP hD hS hA hl.1 dL_isTold_181 (fun H locs hP hD hS => ?_)
        refine lv_ldc (v := 50000) hx hb hown (hts _ wd_4_8) dL_isTold_184 ?_
        refine lv_icmp_gt (tgt := 193) hx hb dL_isTold_186 (by decide) (fun h9 => absurd h9 ((td_d ht h0).2)) (fun _ => ?_)
        refine lv_iconst (v := 1) hx hb dL_isTold_189 (by decide) ?_
        refine lv_goto (tgt := 194) hx hb dL_isTold_190 (by decide) ?_
        exact hh_retS (w := fun (u : Unit) => ([zAJ cJ adW 60 fw, zAJ cJ adU 33 fu, zAJ cJ adG 60 fg, zAI cI adN 6 fn] ++ wB cI cJ cO adB adA lf bs a T)) (()) hQ (rfl) (rfl) hx hb hr hlocks hP hK hD hS dL_isTold_194
      · skip
        refine lv_lload hx hb dL_isTold_155 (lv_at hl 0 rfl) ?_
        refine lv_goto (tgt := 163) hx hb dL_isTold_157 (by decide) ?_
        refine hh_cne (tgt := 193) hx hb dL_isTold_163 dL_isTold_164 (by decide) (fun h9 => absurd ((td_i ht h0).2 hq) h9) (fun _ => ?_)
        refine lv_aload_n hx hb dL_isTold_167 rfl (lv_at hl 6 rfl) ?_
        refine lv_iload_n hx hb dL_isTold_168 rfl (lv_at hl 7 rfl) ?_
        refine lv_iconst (v := 0) hx hb dL_isTold_169 (by decide) ?_
        refine lv_iconst (v := 2) hx hb dL_isTold_170 (by decide) ?_
        refine s_proposed (k := k) (ruv := (0 : Int32)) (wh := (2 : Int32)) K hk (td_le ht) (by decide) (by decide) (by decide) (by decide) (td_pr ht h0) ⟨Nat.le_of_ble_eq_true rfl, Nat.le_of_ble_eq_true rfl⟩ hcs (Nat.le_of_ble_eq_true rfl) hP hD hS hA hl.1 dL_isTold_171 (fun H locs hP hD hS => ?_)
        refine lv_if_lt (tgt := 193) hx hb dL_isTold_174 (by decide) (fun h9 => absurd h9 ((td_d ht h0).1)) (fun _ => ?_)
        refine lv_aload_n hx hb dL_isTold_177 rfl (lv_at hl 6 rfl) ?_
        refine lv_iload_n hx hb dL_isTold_178 rfl (lv_at hl 7 rfl) ?_
        refine lv_iconst (v := 0) hx hb dL_isTold_179 (by decide) ?_
        refine lv_iconst (v := 2) hx hb dL_isTold_180 (by decide) ?_
        refine s_proposed (k := k) (ruv := (0 : Int32)) (wh := (2 : Int32)) K hk (td_le ht) (by decide) (by decide) (by decide) (by decide) (td_pr ht h0) ⟨Nat.le_of_ble_eq_true rfl, Nat.le_of_ble_eq_true rfl⟩ hcs (Nat.le_of_ble_eq_true rfl) hP hD hS hA hl.1 dL_isTold_181 (fun H locs hP hD hS => ?_)
        refine lv_ldc (v := 50000) hx hb hown (hts _ wd_4_8) dL_isTold_184 ?_
        refine lv_icmp_gt (tgt := 193) hx hb dL_isTold_186 (by decide) (fun h9 => absurd h9 ((td_d ht h0).2)) (fun _ => ?_)
        refine lv_iconst (v := 1) hx hb dL_isTold_189 (by decide) ?_
        refine lv_goto (tgt := 194) hx hb dL_isTold_190 (by decide) ?_
        exact hh_retS (w := fun (u : Unit) => ([zAJ cJ adW 60 fw, zAJ cJ adU 33 fu, zAJ cJ adG 60 fg, zAI cI adN 6 fn] ++ wB cI cJ cO adB adA lf bs a T)) (()) hQ (rfl) (rfl) hx hb hr hlocks hP hK hD hS dL_isTold_194
  · skip
    refine lv_iconst (v := 1) hx hb dL_isTold_41 (by decide) ?_
    exact hh_retS (w := fun (u : Unit) => ([zAJ cJ adW 60 fw, zAJ cJ adU 33 fu, zAJ cJ adG 60 fg, zAI cI adN 6 fn] ++ wB cI cJ cO adB adA lf bs a T)) (()) hQ (rfl) (rfl) hx hb hr hlocks hP hK hD hS dL_isTold_42
