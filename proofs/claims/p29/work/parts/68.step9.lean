set_option maxHeartbeats 4000000 in
set_option maxRecDepth 100000 in
theorem c_L_step_9 (l : Launch) (dC : Nat → ClassId) (dI : Nat → Nat → Nat) (cI cJ cZ cO : ClassId) (adB adA adW adU adG adN : Nat) (lf : Nat → Option Nat) (a : Nat → AT) (bs : Int32) (T : Nat → LT) (fw fu fg : Nat → Int64) (fn : Nat → Int32) (k X Y : Nat) (sz : Nat) (hlf : ∀ j : Nat, j < 3 → lf (nI j).toNatClampNeg = some (ya_adL (a j))) (hk : k < 3) (hXk : X % 3 = k) (hX : X < 1073741824) (hY : Y < 1073741824) (hR : RP k (T k) fw fu fg fn) (h15 : fw (20 * k + 15) = 0) : Met l yL_step (Cond.code yL_step cL_step 18 (some .boolean) :: wAll) ({ frames := 5, cells := 0, slots := 0, locals := 122 }) (va_Pc [.ref adB, .int (9 : Int32), .int (nI X), .int (nI Y), .ref adW, .ref adG, .ref adN] (gP (dC, dI) ([zAJ cJ adW 60 fw, zAJ cJ adU 33 fu, zAJ cJ adG 60 fg, zAI cI adN 6 fn] ++ wB cI cJ cO adB adA lf bs a T) (tyG cI cJ cZ cO) sz gN)) (va_Qi (fun r (u : (Nat → Int64) × (Nat → Int64) × (Nat → Int32) × (Nat → LT)) => r = 1 ∧ SPost k T fw fu fg fn u.1 u.2.1 u.2.2.1 u.2.2.2) (fun u t => gB (dC, dI) (va_A ([zAJ cJ adW 60 fw, zAJ cJ adU 33 fu, zAJ cJ adG 60 fg, zAI cI adN 6 fn] ++ wB cI cJ cO adB adA lf bs a T) sz) ([zAJ cJ adW 60 u.1, zAJ cJ adU 33 fu, zAJ cJ adG 60 u.2.1, zAI cI adN 6 u.2.2.1] ++ wB cI cJ cO adB adA lf bs a u.2.2.2) (tyG cI cJ cZ cO) t) (va_A ([zAJ cJ adW 60 fw, zAJ cJ adU 33 fu, zAJ cJ adG 60 fg, zAI cI adN 6 fn] ++ wB cI cJ cO adB adA lf bs a T) sz)) 0 0 (va_A ([zAJ cJ adW 60 fw, zAJ cJ adU 33 fu, zAJ cJ adG 60 fg, zAI cI adN 6 fn] ++ wB cI cJ cO adB adA lf bs a T) sz) := by
  refine Met.ofW (cc := cL_step) (maxL := 18) (ret := (some .boolean)) (by decide) rfl ?_
  intro p e s m args below meth c s₁ B hml hv
  obtain ⟨rfl, hsz, hP, hK, hD0, hG⟩ := hv
  have hx := B.exec
  have hb := B.bytes
  have hr := B.returns
  have hts := ht_of B.pre
  have hown : s.vm.findClass RL = some m.cls := findClass_of_methodNamed B.named
  have hlocks := B.notSynchronized
  subst hsz
  have hD := hD0.self (sz := s.heap.size)
  generalize hAe : va_A ([zAJ cJ adW 60 fw, zAJ cJ adU 33 fu, zAJ cJ adG 60 fg, zAI cI adN 6 fn] ++ wB cI cJ cO adB adA lf bs a T) s.heap.size = A at hD ⊢
  have hA : ∀ q : Nat, s.heap.size ≤ q → A q := fun q h => by rw [← hAe]; exact Or.inr h
  have hS : va_S A s.heap s.heap [] := va_S.rf
  have hl := lv_entry ([.ref adB, .int (9 : Int32), .int (nI X), .int (nI Y), .ref adW, .ref adG, .ref adN]) (n := 18) (Nat.le_of_ble_eq_true rfl)
  rw [lg_entry_eq]
  generalize (lg_sl ([.ref adB, .int (9 : Int32), .int (nI X), .int (nI Y), .ref adW, .ref adG, .ref adN]) ++ List.replicate (18 - (lg_sl ([.ref adB, .int (9 : Int32), .int (nI X), .int (nI Y), .ref adW, .ref adG, .ref adN])).length) Slot.unset).toArray = ls at hl ⊢
  have hl : lv_has ls 18 [(0, .ref adB), (1, .int (9 : Int32)), (2, .int (nI X)), (3, .int (nI Y)), (4, .ref adW), (5, .ref adG), (6, .ref adN)] := hl
  refine hh_name (fun Q hQ => ?_)
  have K := fx_mk hx hb hml hown hts hG hK hlf
  have hcs : (0 : Nat) ≤ 0 ∧ (0 : Nat) ≤ 0 := ⟨Nat.zero_le _, Nat.zero_le _⟩
  refine lv_iload_n hx hb dL_step_0 rfl (lv_at hl 2 rfl) ?_
  refine lv_iconst (v := 3) hx hb dL_step_1 (by decide) ?_
  refine lv_irem hx hb dL_step_2 (by decide) ?_
  refine hh_seti (y := (nI ((X % 3)))) (lwMod (a := X) (b := 3) (by omega) (by decide) (by decide) rfl) ?_
  refine hh_seti (y := nI k) (by rw [hXk]) ?_
  refine lv_istore (lv' := [(7, .int (nI k)), (0, .ref adB), (1, .int (9 : Int32)), (2, .int (nI X)), (3, .int (nI Y)), (4, .ref adW), (5, .ref adG), (6, .ref adN)]) hx hb dL_step_3 hl (by decide) rfl (fun ls hl => ?_)
  refine lv_bipush (v := 20) hx hb dL_step_5 (by decide) ?_
  refine lv_iload hx hb dL_step_7 (lv_at hl 0 rfl) ?_
  refine lv_imul hx hb dL_step_9 ?_
  refine hh_seti (y := (nI (20 * k))) (lwMul (a := 20) (b := k) (by omega)) ?_
  refine lv_istore (lv' := [(8, .int (nI (20 * k))), (7, .int (nI k)), (0, .ref adB), (1, .int (9 : Int32)), (2, .int (nI X)), (3, .int (nI Y)), (4, .ref adW), (5, .ref adG), (6, .ref adN)]) hx hb dL_step_10 hl (by decide) rfl (fun ls hl => ?_)
  refine lv_iload_n hx hb dL_step_12 rfl (lv_at hl 3 rfl) ?_
  refine lv_tableIn (off := 850) (tgt := 863) hx hb dL_step_13 (by decide) (by decide) rfl (by decide) ?_
  refine lv_aload_n hx hb dL_step_863 rfl (lv_at hl 2 rfl) ?_
  refine lv_iload hx hb dL_step_864 (lv_at hl 1 rfl) ?_
  refine s_mode (k := k)  K hk  ⟨Nat.le_of_ble_eq_true rfl, Nat.le_of_ble_eq_true rfl⟩ hcs (Nat.le_of_ble_eq_true rfl) hP hD hS hA hl.1 dL_step_866 (fun H locs hP hD hS => ?_)
  refine hh_seti (y := (yl_lmo (T k))) (rfl) ?_
  refine lv_iconst (v := 1) hx hb dL_step_869 (by decide) ?_
  refine lv_icmp_eq (tgt := 885) hx hb dL_step_870 (by decide) (fun h870 => ?_) (fun h870 => ?_)
  · skip
    refine lv_aload hx hb dL_step_885 (lv_at hl 6 rfl) ?_
    refine lv_iload hx hb dL_step_887 (lv_at hl 0 rfl) ?_
    refine lv_bipush (v := 11) hx hb dL_step_889 (by decide) ?_
    refine lv_iadd hx hb dL_step_891 ?_
    refine hh_seti (y := (nI (20 * k + 11))) (lwAdd (a := 20 * k) (b := 11) (by omega)) ?_
    refine lv_iconst (v := 1) hx hb dL_step_892 (by decide) ?_
    refine lv_iload_n hx hb dL_step_893 rfl (lv_at hl 5 rfl) ?_
    refine lv_sipush (v := 5000) hx hb dL_step_894 (by decide) ?_
    refine lv_irem hx hb dL_step_897 (by decide) ?_
    refine hh_seti (y := (nI ((Y % 5000)))) (lwMod (a := Y) (b := 5000) (by omega) (by decide) (by decide) rfl) ?_
    refine lv_iadd hx hb dL_step_898 ?_
    refine hh_seti (y := (nI ((Y % 5000) + 1))) (lwAdd (a := 1) (b := (Y % 5000)) (by omega)) ?_
    refine lv_i2l hx hb dL_step_899 rfl ?_
    refine lr_ls hx hb hK hP hD hS 0 1 (e0 := 20 * k + 11) rfl rfl (by omega) (by decide) dL_step_900 (w1 := ([zAJ cJ adW 60 (vp_updL fw (20 * k + 11) ((nI ((Y % 5000) + 1)).toInt64)), zAJ cJ adU 33 fu, zAJ cJ adG 60 fg, zAI cI adN 6 fn] ++ wB cI cJ cO adB adA lf bs a T)) rfl (fun H locs hP hD hS => ?_)
    refine lv_aload hx hb dL_step_901 (lv_at hl 6 rfl) ?_
    refine lv_iload hx hb dL_step_903 (lv_at hl 0 rfl) ?_
    refine lv_bipush (v := 12) hx hb dL_step_905 (by decide) ?_
    refine lv_iadd hx hb dL_step_907 ?_
    refine hh_seti (y := (nI (20 * k + 12))) (lwAdd (a := 20 * k) (b := 12) (by omega)) ?_
    refine lv_iload_n hx hb dL_step_908 rfl (lv_at hl 4 rfl) ?_
    refine lv_iconst (v := 3) hx hb dL_step_909 (by decide) ?_
    refine lv_irem hx hb dL_step_910 (by decide) ?_
    refine hh_seti (y := (nI ((X % 3)))) (lwMod (a := X) (b := 3) (by omega) (by decide) (by decide) rfl) ?_
    refine lv_if_ne (tgt := 923) hx hb dL_step_911 (by decide) (fun h911 => ?_) (fun h911 => ?_)
    · skip
      refine lv_iload_n hx hb dL_step_923 rfl (lv_at hl 4 rfl) ?_
      refine lv_bipush (v := 20) hx hb dL_step_924 (by decide) ?_
      refine lv_irem hx hb dL_step_926 (by decide) ?_
      refine hh_seti (y := (nI ((X % 20)))) (lwMod (a := X) (b := 20) (by omega) (by decide) (by decide) rfl) ?_
      refine lv_i2l hx hb dL_step_927 rfl ?_
      refine lr_ls hx hb hK hP hD hS 0 1 (e0 := 20 * k + 12) rfl rfl (by omega) (by decide) dL_step_928 (w1 := ([zAJ cJ adW 60 (vp_updL (vp_updL fw (20 * k + 11) ((nI ((Y % 5000) + 1)).toInt64)) (20 * k + 12) ((nI ((X % 20))).toInt64)), zAJ cJ adU 33 fu, zAJ cJ adG 60 fg, zAI cI adN 6 fn] ++ wB cI cJ cO adB adA lf bs a T)) rfl (fun H locs hP hD hS => ?_)
      refine lv_aload hx hb dL_step_929 (lv_at hl 6 rfl) ?_
      refine lv_iload hx hb dL_step_931 (lv_at hl 0 rfl) ?_
      refine lv_bipush (v := 13) hx hb dL_step_933 (by decide) ?_
      refine lv_iadd hx hb dL_step_935 ?_
      refine hh_seti (y := (nI (20 * k + 13))) (lwAdd (a := 20 * k) (b := 13) (by omega)) ?_
      refine lv_aload_n hx hb dL_step_936 rfl (lv_at hl 2 rfl) ?_
      refine lv_iload hx hb dL_step_937 (lv_at hl 1 rfl) ?_
      refine s_output (k := k)  K hk  ⟨Nat.le_of_ble_eq_true rfl, Nat.le_of_ble_eq_true rfl⟩ hcs (Nat.le_of_ble_eq_true rfl) hP hD hS hA hl.1 dL_step_939 (fun H locs hP hD hS => ?_)
      refine hh_setl (y := (yl_lou (T k))) (rfl) ?_
      refine lr_ls hx hb hK hP hD hS 0 1 (e0 := 20 * k + 13) rfl rfl (by omega) (by decide) dL_step_942 (w1 := ([zAJ cJ adW 60 (vp_updL (vp_updL (vp_updL fw (20 * k + 11) ((nI ((Y % 5000) + 1)).toInt64)) (20 * k + 12) ((nI ((X % 20))).toInt64)) (20 * k + 13) (yl_lou (T k))), zAJ cJ adU 33 fu, zAJ cJ adG 60 fg, zAI cI adN 6 fn] ++ wB cI cJ cO adB adA lf bs a T)) rfl (fun H locs hP hD hS => ?_)
      refine lv_aload hx hb dL_step_943 (lv_at hl 6 rfl) ?_
      refine lv_iload hx hb dL_step_945 (lv_at hl 0 rfl) ?_
      refine lv_bipush (v := 15) hx hb dL_step_947 (by decide) ?_
      refine lv_iadd hx hb dL_step_949 ?_
      refine hh_seti (y := (nI (20 * k + 15))) (lwAdd (a := 20 * k) (b := 15) (by omega)) ?_
      refine lv_lconst (v := 0) hx hb dL_step_950 (by decide) ?_
      refine lr_ls hx hb hK hP hD hS 0 1 (e0 := 20 * k + 15) rfl rfl (by omega) (by decide) dL_step_951 (w1 := ([zAJ cJ adW 60 (vp_updL (vp_updL (vp_updL (vp_updL fw (20 * k + 11) ((nI ((Y % 5000) + 1)).toInt64)) (20 * k + 12) ((nI ((X % 20))).toInt64)) (20 * k + 13) (yl_lou (T k))) (20 * k + 15) (0 : Int64)), zAJ cJ adU 33 fu, zAJ cJ adG 60 fg, zAI cI adN 6 fn] ++ wB cI cJ cO adB adA lf bs a T)) rfl (fun H locs hP hD hS => ?_)
      refine lv_aload hx hb dL_step_952 (lv_at hl 8 rfl) ?_
      refine lv_iconst (v := 3) hx hb dL_step_954 (by decide) ?_
      refine lv_iload hx hb dL_step_955 (lv_at hl 1 rfl) ?_
      refine lv_iadd hx hb dL_step_957 ?_
      refine hh_seti (y := (nI (k + 3))) (lwAdd (a := 3) (b := k) (by omega)) ?_
      refine lv_iconst (v := 0) hx hb dL_step_958 (by decide) ?_
      refine lr_is hx hb hK hP hD hS 3 0 (e0 := k + 3) rfl rfl (by omega) (by decide) dL_step_959 (w1 := ([zAJ cJ adW 60 (vp_updL (vp_updL (vp_updL (vp_updL fw (20 * k + 11) ((nI ((Y % 5000) + 1)).toInt64)) (20 * k + 12) ((nI ((X % 20))).toInt64)) (20 * k + 13) (yl_lou (T k))) (20 * k + 15) (0 : Int64)), zAJ cJ adU 33 fu, zAJ cJ adG 60 fg, zAI cI adN 6 (upd fn (k + 3) (0 : Int32))] ++ wB cI cJ cO adB adA lf bs a T)) rfl (fun H locs hP hD hS => ?_)
      refine lv_aload_n hx hb dL_step_960 rfl (lv_at hl 2 rfl) ?_
      refine lv_iload hx hb dL_step_961 (lv_at hl 1 rfl) ?_
      refine lv_aload hx hb dL_step_963 (lv_at hl 6 rfl) ?_
      refine lv_iload hx hb dL_step_965 (lv_at hl 0 rfl) ?_
      refine lv_bipush (v := 11) hx hb dL_step_967 (by decide) ?_
      refine lv_iadd hx hb dL_step_969 ?_
      refine hh_seti (y := (nI (20 * k + 11))) (lwAdd (a := 20 * k) (b := 11) (by omega)) ?_
      refine lr_ll hx hb hK hP 0 1 (e0 := 20 * k + 11) rfl rfl (by omega) (by decide) dL_step_970 ?_
      refine hh_setl (y := (nI ((Y % 5000) + 1)).toInt64) (((ul_ne _ _ (by omega)).trans ((ul_ne _ _ (by omega)).trans ((ul_ne _ _ (by omega)).trans (ul_eq _ _ _)))).symm) ?_
      refine lv_l2i hx hb dL_step_971 rfl ?_
      refine hh_seti (y := (nI ((Y % 5000) + 1))) (t3264 _).symm ?_
      refine lv_aload hx hb dL_step_972 (lv_at hl 6 rfl) ?_
      refine lv_iload hx hb dL_step_974 (lv_at hl 0 rfl) ?_
      refine lv_bipush (v := 12) hx hb dL_step_976 (by decide) ?_
      refine lv_iadd hx hb dL_step_978 ?_
      refine hh_seti (y := (nI (20 * k + 12))) (lwAdd (a := 20 * k) (b := 12) (by omega)) ?_
      refine lr_ll hx hb hK hP 0 1 (e0 := 20 * k + 12) rfl rfl (by omega) (by decide) dL_step_979 ?_
      refine hh_setl (y := (nI ((X % 20))).toInt64) (((ul_ne _ _ (by omega)).trans ((ul_ne _ _ (by omega)).trans (ul_eq _ _ _))).symm) ?_
      refine lv_l2i hx hb dL_step_980 rfl ?_
      refine hh_seti (y := (nI ((X % 20)))) (t3264 _).symm ?_
      refine s_startRelay (k := k) (hev := (nI ((Y % 5000) + 1))) (bav := (nI ((X % 20)))) K hk (bd_lo (M := 1) (nI_i (n := (Y % 5000) + 1) (by omega)) (by decide) (by omega)) (bd_hi (M := 100000) (nI_i (n := (Y % 5000) + 1) (by omega)) (by decide) (by omega)) (bd_lo (M := 0) (nI_i (n := (X % 20)) (by omega)) (by decide) (by omega)) (bd_hi (M := 100000) (nI_i (n := (X % 20)) (by omega)) (by decide) (by omega)) (sr_q h870) ⟨Nat.le_of_ble_eq_true rfl, Nat.le_of_ble_eq_true rfl⟩ hcs (Nat.le_of_ble_eq_true rfl) hP hD hS hA hl.1 dL_step_981 (fun H locs hP hD hS => ?_)
      refine lv_aload_n hx hb dL_step_984 rfl (lv_at hl 2 rfl) ?_
      refine lv_iload hx hb dL_step_985 (lv_at hl 1 rfl) ?_
      refine s_mode (k := k)  K hk  ⟨Nat.le_of_ble_eq_true rfl, Nat.le_of_ble_eq_true rfl⟩ hcs (Nat.le_of_ble_eq_true rfl) hP hD hS hA hl.1 dL_step_987 (fun H locs hP hD hS => ?_)
      refine hh_seti (y := (yl_lmo (lu_startRelay (T k) (nI ((Y % 5000) + 1)) (nI ((X % 20)))))) (by rw [upT_e] <;> rfl) ?_
      refine lv_iconst (v := 3) hx hb dL_step_990 (by decide) ?_
      refine lv_icmp_ne (tgt := 1008) hx hb dL_step_991 (by decide) (fun h9 => absurd (rfl) h9) (fun _ => ?_)
      refine lv_aload_n hx hb dL_step_994 rfl (lv_at hl 2 rfl) ?_
      refine lv_iload hx hb dL_step_995 (lv_at hl 1 rfl) ?_
      refine s_experiment (k := k)  K hk  ⟨Nat.le_of_ble_eq_true rfl, Nat.le_of_ble_eq_true rfl⟩ hcs (Nat.le_of_ble_eq_true rfl) hP hD hS hA hl.1 dL_step_997 (fun H locs hP hD hS => ?_)
      refine hh_seti (y := (yl_rpr (lu_startRelay (T k) (nI ((Y % 5000) + 1)) (nI ((X % 20)))))) (by rw [upT_e] <;> rfl) ?_
      refine lv_iconst (v := 1) hx hb dL_step_1000 (by decide) ?_
      refine lv_icmp_ne (tgt := 1008) hx hb dL_step_1001 (by decide) (fun h9 => absurd (rfl) h9) (fun _ => ?_)
      refine lv_iconst (v := 1) hx hb dL_step_1004 (by decide) ?_
      refine lv_goto (tgt := 1009) hx hb dL_step_1005 (by decide) ?_
      exact hh_retS (w := fun (u : (Nat → Int64) × (Nat → Int64) × (Nat → Int32) × (Nat → LT)) => ([zAJ cJ adW 60 u.1, zAJ cJ adU 33 fu, zAJ cJ adG 60 u.2.1, zAI cI adN 6 u.2.2.1] ++ wB cI cJ cO adB adA lf bs a u.2.2.2)) (((vp_updL (vp_updL (vp_updL (vp_updL fw (20 * k + 11) ((nI ((Y % 5000) + 1)).toInt64)) (20 * k + 12) ((nI ((X % 20))).toInt64)) (20 * k + 13) (yl_lou (T k))) (20 * k + 15) (0 : Int64)), fg, (upd fn (k + 3) (0 : Int32)), (upT T k (lu_startRelay (T k) (nI ((Y % 5000) + 1)) (nI ((X % 20))))))) hQ (⟨rfl, SP_mk (op_startRelay hR (by rw [(nI_i (n := (Y % 5000) + 1) (by omega))]; omega) (by rw [(nI_i (n := (X % 20)) (by omega))]; omega)) (by intro i hi; (try dsimp only); repeat rw [ul_ne _ _ (by omega)]) (fun _ _ => rfl) (by intro j hj hj3; (try dsimp only); repeat rw [u_ne _ _ (by omega)])⟩) (rfl) hx hb hr hlocks hP hK hD hS dL_step_1009
    · skip
      refine lv_iload_n hx hb dL_step_914 rfl (lv_at hl 4 rfl) ?_
      refine lv_sipush (v := 500) hx hb dL_step_915 (by decide) ?_
      refine lv_irem hx hb dL_step_918 (by decide) ?_
      refine hh_seti (y := (nI ((X % 500)))) (lwMod (a := X) (b := 500) (by omega) (by decide) (by decide) rfl) ?_
      refine lv_i2l hx hb dL_step_919 rfl ?_
      refine lv_goto (tgt := 928) hx hb dL_step_920 (by decide) ?_
      refine lr_ls hx hb hK hP hD hS 0 1 (e0 := 20 * k + 12) rfl rfl (by omega) (by decide) dL_step_928 (w1 := ([zAJ cJ adW 60 (vp_updL (vp_updL fw (20 * k + 11) ((nI ((Y % 5000) + 1)).toInt64)) (20 * k + 12) ((nI ((X % 500))).toInt64)), zAJ cJ adU 33 fu, zAJ cJ adG 60 fg, zAI cI adN 6 fn] ++ wB cI cJ cO adB adA lf bs a T)) rfl (fun H locs hP hD hS => ?_)
      refine lv_aload hx hb dL_step_929 (lv_at hl 6 rfl) ?_
      refine lv_iload hx hb dL_step_931 (lv_at hl 0 rfl) ?_
      refine lv_bipush (v := 13) hx hb dL_step_933 (by decide) ?_
      refine lv_iadd hx hb dL_step_935 ?_
      refine hh_seti (y := (nI (20 * k + 13))) (lwAdd (a := 20 * k) (b := 13) (by omega)) ?_
      refine lv_aload_n hx hb dL_step_936 rfl (lv_at hl 2 rfl) ?_
      refine lv_iload hx hb dL_step_937 (lv_at hl 1 rfl) ?_
      refine s_output (k := k)  K hk  ⟨Nat.le_of_ble_eq_true rfl, Nat.le_of_ble_eq_true rfl⟩ hcs (Nat.le_of_ble_eq_true rfl) hP hD hS hA hl.1 dL_step_939 (fun H locs hP hD hS => ?_)
      refine hh_setl (y := (yl_lou (T k))) (rfl) ?_
      refine lr_ls hx hb hK hP hD hS 0 1 (e0 := 20 * k + 13) rfl rfl (by omega) (by decide) dL_step_942 (w1 := ([zAJ cJ adW 60 (vp_updL (vp_updL (vp_updL fw (20 * k + 11) ((nI ((Y % 5000) + 1)).toInt64)) (20 * k + 12) ((nI ((X % 500))).toInt64)) (20 * k + 13) (yl_lou (T k))), zAJ cJ adU 33 fu, zAJ cJ adG 60 fg, zAI cI adN 6 fn] ++ wB cI cJ cO adB adA lf bs a T)) rfl (fun H locs hP hD hS => ?_)
      refine lv_aload hx hb dL_step_943 (lv_at hl 6 rfl) ?_
      refine lv_iload hx hb dL_step_945 (lv_at hl 0 rfl) ?_
      refine lv_bipush (v := 15) hx hb dL_step_947 (by decide) ?_
      refine lv_iadd hx hb dL_step_949 ?_
      refine hh_seti (y := (nI (20 * k + 15))) (lwAdd (a := 20 * k) (b := 15) (by omega)) ?_
      refine lv_lconst (v := 0) hx hb dL_step_950 (by decide) ?_
      refine lr_ls hx hb hK hP hD hS 0 1 (e0 := 20 * k + 15) rfl rfl (by omega) (by decide) dL_step_951 (w1 := ([zAJ cJ adW 60 (vp_updL (vp_updL (vp_updL (vp_updL fw (20 * k + 11) ((nI ((Y % 5000) + 1)).toInt64)) (20 * k + 12) ((nI ((X % 500))).toInt64)) (20 * k + 13) (yl_lou (T k))) (20 * k + 15) (0 : Int64)), zAJ cJ adU 33 fu, zAJ cJ adG 60 fg, zAI cI adN 6 fn] ++ wB cI cJ cO adB adA lf bs a T)) rfl (fun H locs hP hD hS => ?_)
      refine lv_aload hx hb dL_step_952 (lv_at hl 8 rfl) ?_
      refine lv_iconst (v := 3) hx hb dL_step_954 (by decide) ?_
      refine lv_iload hx hb dL_step_955 (lv_at hl 1 rfl) ?_
      refine lv_iadd hx hb dL_step_957 ?_
      refine hh_seti (y := (nI (k + 3))) (lwAdd (a := 3) (b := k) (by omega)) ?_
      refine lv_iconst (v := 0) hx hb dL_step_958 (by decide) ?_
      refine lr_is hx hb hK hP hD hS 3 0 (e0 := k + 3) rfl rfl (by omega) (by decide) dL_step_959 (w1 := ([zAJ cJ adW 60 (vp_updL (vp_updL (vp_updL (vp_updL fw (20 * k + 11) ((nI ((Y % 5000) + 1)).toInt64)) (20 * k + 12) ((nI ((X % 500))).toInt64)) (20 * k + 13) (yl_lou (T k))) (20 * k + 15) (0 : Int64)), zAJ cJ adU 33 fu, zAJ cJ adG 60 fg, zAI cI adN 6 (upd fn (k + 3) (0 : Int32))] ++ wB cI cJ cO adB adA lf bs a T)) rfl (fun H locs hP hD hS => ?_)
      refine lv_aload_n hx hb dL_step_960 rfl (lv_at hl 2 rfl) ?_
      refine lv_iload hx hb dL_step_961 (lv_at hl 1 rfl) ?_
      refine lv_aload hx hb dL_step_963 (lv_at hl 6 rfl) ?_
      refine lv_iload hx hb dL_step_965 (lv_at hl 0 rfl) ?_
      refine lv_bipush (v := 11) hx hb dL_step_967 (by decide) ?_
      refine lv_iadd hx hb dL_step_969 ?_
      refine hh_seti (y := (nI (20 * k + 11))) (lwAdd (a := 20 * k) (b := 11) (by omega)) ?_
      refine lr_ll hx hb hK hP 0 1 (e0 := 20 * k + 11) rfl rfl (by omega) (by decide) dL_step_970 ?_
      refine hh_setl (y := (nI ((Y % 5000) + 1)).toInt64) (((ul_ne _ _ (by omega)).trans ((ul_ne _ _ (by omega)).trans ((ul_ne _ _ (by omega)).trans (ul_eq _ _ _)))).symm) ?_
      refine lv_l2i hx hb dL_step_971 rfl ?_
      refine hh_seti (y := (nI ((Y % 5000) + 1))) (t3264 _).symm ?_
      refine lv_aload hx hb dL_step_972 (lv_at hl 6 rfl) ?_
      refine lv_iload hx hb dL_step_974 (lv_at hl 0 rfl) ?_
      refine lv_bipush (v := 12) hx hb dL_step_976 (by decide) ?_
      refine lv_iadd hx hb dL_step_978 ?_
      refine hh_seti (y := (nI (20 * k + 12))) (lwAdd (a := 20 * k) (b := 12) (by omega)) ?_
      refine lr_ll hx hb hK hP 0 1 (e0 := 20 * k + 12) rfl rfl (by omega) (by decide) dL_step_979 ?_
      refine hh_setl (y := (nI ((X % 500))).toInt64) (((ul_ne _ _ (by omega)).trans ((ul_ne _ _ (by omega)).trans (ul_eq _ _ _))).symm) ?_
      refine lv_l2i hx hb dL_step_980 rfl ?_
      refine hh_seti (y := (nI ((X % 500)))) (t3264 _).symm ?_
      refine s_startRelay (k := k) (hev := (nI ((Y % 5000) + 1))) (bav := (nI ((X % 500)))) K hk (bd_lo (M := 1) (nI_i (n := (Y % 5000) + 1) (by omega)) (by decide) (by omega)) (bd_hi (M := 100000) (nI_i (n := (Y % 5000) + 1) (by omega)) (by decide) (by omega)) (bd_lo (M := 0) (nI_i (n := (X % 500)) (by omega)) (by decide) (by omega)) (bd_hi (M := 100000) (nI_i (n := (X % 500)) (by omega)) (by decide) (by omega)) (sr_q h870) ⟨Nat.le_of_ble_eq_true rfl, Nat.le_of_ble_eq_true rfl⟩ hcs (Nat.le_of_ble_eq_true rfl) hP hD hS hA hl.1 dL_step_981 (fun H locs hP hD hS => ?_)
      refine lv_aload_n hx hb dL_step_984 rfl (lv_at hl 2 rfl) ?_
      refine lv_iload hx hb dL_step_985 (lv_at hl 1 rfl) ?_
      refine s_mode (k := k)  K hk  ⟨Nat.le_of_ble_eq_true rfl, Nat.le_of_ble_eq_true rfl⟩ hcs (Nat.le_of_ble_eq_true rfl) hP hD hS hA hl.1 dL_step_987 (fun H locs hP hD hS => ?_)
      refine hh_seti (y := (yl_lmo (lu_startRelay (T k) (nI ((Y % 5000) + 1)) (nI ((X % 500)))))) (by rw [upT_e] <;> rfl) ?_
      refine lv_iconst (v := 3) hx hb dL_step_990 (by decide) ?_
      refine lv_icmp_ne (tgt := 1008) hx hb dL_step_991 (by decide) (fun h9 => absurd (rfl) h9) (fun _ => ?_)
      refine lv_aload_n hx hb dL_step_994 rfl (lv_at hl 2 rfl) ?_
      refine lv_iload hx hb dL_step_995 (lv_at hl 1 rfl) ?_
      refine s_experiment (k := k)  K hk  ⟨Nat.le_of_ble_eq_true rfl, Nat.le_of_ble_eq_true rfl⟩ hcs (Nat.le_of_ble_eq_true rfl) hP hD hS hA hl.1 dL_step_997 (fun H locs hP hD hS => ?_)
      refine hh_seti (y := (yl_rpr (lu_startRelay (T k) (nI ((Y % 5000) + 1)) (nI ((X % 500)))))) (by rw [upT_e] <;> rfl) ?_
      refine lv_iconst (v := 1) hx hb dL_step_1000 (by decide) ?_
      refine lv_icmp_ne (tgt := 1008) hx hb dL_step_1001 (by decide) (fun h9 => absurd (rfl) h9) (fun _ => ?_)
      refine lv_iconst (v := 1) hx hb dL_step_1004 (by decide) ?_
      refine lv_goto (tgt := 1009) hx hb dL_step_1005 (by decide) ?_
      exact hh_retS (w := fun (u : (Nat → Int64) × (Nat → Int64) × (Nat → Int32) × (Nat → LT)) => ([zAJ cJ adW 60 u.1, zAJ cJ adU 33 fu, zAJ cJ adG 60 u.2.1, zAI cI adN 6 u.2.2.1] ++ wB cI cJ cO adB adA lf bs a u.2.2.2)) (((vp_updL (vp_updL (vp_updL (vp_updL fw (20 * k + 11) ((nI ((Y % 5000) + 1)).toInt64)) (20 * k + 12) ((nI ((X % 500))).toInt64)) (20 * k + 13) (yl_lou (T k))) (20 * k + 15) (0 : Int64)), fg, (upd fn (k + 3) (0 : Int32)), (upT T k (lu_startRelay (T k) (nI ((Y % 5000) + 1)) (nI ((X % 500))))))) hQ (⟨rfl, SP_mk (op_startRelay hR (by rw [(nI_i (n := (Y % 5000) + 1) (by omega))]; omega) (by rw [(nI_i (n := (X % 500)) (by omega))]; omega)) (by intro i hi; (try dsimp only); repeat rw [ul_ne _ _ (by omega)]) (fun _ _ => rfl) (by intro j hj hj3; (try dsimp only); repeat rw [u_ne _ _ (by omega)])⟩) (rfl) hx hb hr hlocks hP hK hD hS dL_step_1009
  · skip
    refine lv_aload_n hx hb dL_step_873 rfl (lv_at hl 2 rfl) ?_
    refine lv_aload hx hb dL_step_874 (lv_at hl 6 rfl) ?_
    refine lv_aload hx hb dL_step_876 (lv_at hl 8 rfl) ?_
    refine lv_iload hx hb dL_step_878 (lv_at hl 1 rfl) ?_
    refine lv_iconst (v := 1) hx hb dL_step_880 (by decide) ?_
    refine lw_RS (S := (Nat → Int64) × (Nat → LT)) (wl := []) (wr := ([zAJ cJ adW 60 fw, zAJ cJ adU 33 fu, zAJ cJ adG 60 fg, zAI cI adN 6 fn] ++ wB cI cJ cO adB adA lf bs a T)) (wq := fun u => ([zAJ cJ adW 60 u.1, zAJ cJ adU 33 fu, zAJ cJ adG 60 fg, zAI cI adN 6 fn] ++ wB cI cJ cO adB adA lf bs a u.2)) (rest := []) (va_runS (As := [.ref adB, .ref adW, .ref adN, .int (nI k), .int (1 : Int32)]) (rest := []) ⟨hx, hb, hml, hown, hts⟩ (c_L_modes_1 l dC dI cI cJ cZ cO adB adA adW adU adG adN lf a bs T fw fu fg fn k _ hlf hk hR h15) (va_cwS 5 hts (gd_S wd_3_10 wd_3_11 wd_1_0 wd_3_12) rfl rfl rfl (by decide +kernel) ⟨Nat.le_of_ble_eq_true rfl, Nat.le_of_ble_eq_true rfl⟩) (lw_S2 (wl := []) gN_c (fun U _ hW => gN_w hW hG) hK (List.Perm.refl _) hP hD) rfl rfl hl.1 rfl (lv_room (Nat.le_of_ble_eq_true rfl)) dL_step_881 hcs) hP hD hS hA (fun r u H locs hpost hP hD hS => ?_)
    obtain ⟨rfl, hsp⟩ := hpost
    have hP : va_P (dC, dI) vwCl ([zAJ cJ adW 60 u.1, zAJ cJ adU 33 fu, zAJ cJ adG 60 fg, zAI cI adN 6 fn] ++ wB cI cJ cO adB adA lf bs a u.2) H := hP
    have hD : va_D A ([zAJ cJ adW 60 u.1, zAJ cJ adU 33 fu, zAJ cJ adG 60 fg, zAI cI adN 6 fn] ++ wB cI cJ cO adB adA lf bs a u.2) := hD
    exact hh_retS (w := fun (u : (Nat → Int64) × (Nat → Int64) × (Nat → Int32) × (Nat → LT)) => ([zAJ cJ adW 60 u.1, zAJ cJ adU 33 fu, zAJ cJ adG 60 u.2.1, zAI cI adN 6 u.2.2.1] ++ wB cI cJ cO adB adA lf bs a u.2.2.2)) ((u.1, fg, fn, u.2)) hQ (⟨rfl, hsp⟩) (rfl) hx hb hr hlocks hP hK hD hS dL_step_884
