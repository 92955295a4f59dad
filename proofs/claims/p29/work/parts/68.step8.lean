set_option maxHeartbeats 4000000 in
set_option maxRecDepth 100000 in
theorem c_L_step_8 (l : Launch) (dC : Nat → ClassId) (dI : Nat → Nat → Nat) (cI cJ cZ cO : ClassId) (adB adA adW adU adG adN : Nat) (lf : Nat → Option Nat) (a : Nat → AT) (bs : Int32) (T : Nat → LT) (fw fu fg : Nat → Int64) (fn : Nat → Int32) (k X Y : Nat) (sz : Nat) (hlf : ∀ j : Nat, j < 3 → lf (nI j).toNatClampNeg = some (ya_adL (a j))) (hk : k < 3) (hXk : X % 3 = k) (hX : X < 1073741824) (hY : Y < 1073741824) (hR : RP k (T k) fw fu fg fn) (h15 : fw (20 * k + 15) = 0) : Met l yL_step (Cond.code yL_step cL_step 18 (some .boolean) :: wAll) ({ frames := 5, cells := 0, slots := 0, locals := 122 }) (va_Pc [.ref adB, .int (8 : Int32), .int (nI X), .int (nI Y), .ref adW, .ref adG, .ref adN] (gP (dC, dI) ([zAJ cJ adW 60 fw, zAJ cJ adU 33 fu, zAJ cJ adG 60 fg, zAI cI adN 6 fn] ++ wB cI cJ cO adB adA lf bs a T) (tyG cI cJ cZ cO) sz gN)) (va_Qi (fun r (u : (Nat → Int64) × (Nat → Int64) × (Nat → Int32) × (Nat → LT)) => r = 1 ∧ SPost k T fw fu fg fn u.1 u.2.1 u.2.2.1 u.2.2.2) (fun u t => gB (dC, dI) (va_A ([zAJ cJ adW 60 fw, zAJ cJ adU 33 fu, zAJ cJ adG 60 fg, zAI cI adN 6 fn] ++ wB cI cJ cO adB adA lf bs a T) sz) ([zAJ cJ adW 60 u.1, zAJ cJ adU 33 fu, zAJ cJ adG 60 u.2.1, zAI cI adN 6 u.2.2.1] ++ wB cI cJ cO adB adA lf bs a u.2.2.2) (tyG cI cJ cZ cO) t) (va_A ([zAJ cJ adW 60 fw, zAJ cJ adU 33 fu, zAJ cJ adG 60 fg, zAI cI adN 6 fn] ++ wB cI cJ cO adB adA lf bs a T) sz)) 0 0 (va_A ([zAJ cJ adW 60 fw, zAJ cJ adU 33 fu, zAJ cJ adG 60 fg, zAI cI adN 6 fn] ++ wB cI cJ cO adB adA lf bs a T) sz) := by
  refine Met.ofW (cc := cL_step) (maxL := 18) (ret := (some .boolean)) (by decide) rfl ?_
  intro p e s m args below meth c s₁ B hml hv
  obtain ⟨rfl, hsz, hP, hK, hD0, hG⟩ := hv
  have hx := B.exec
  have hb := B.bytes
  have hr := B.returns
  have hts := ht_of B.pre
  have hown : s.vm.findClass RL = some m.cls := findClass_of_methodNamed B.named
  have hlocks := B.notSynchronized
  subst hsz
  have hD := hD0.self (sz := s.heap.size)
  generalize hAe : va_A ([zAJ cJ adW 60 fw, zAJ cJ adU 33 fu, zAJ cJ adG 60 fg, zAI cI adN 6 fn] ++ wB cI cJ cO adB adA lf bs a T) s.heap.size = A at hD ⊢
  have hA : ∀ q : Nat, s.heap.size ≤ q → A q := fun q h => by rw [← hAe]; exact Or.inr h
  have hS : va_S A s.heap s.heap [] := va_S.rf
  have hl := lv_entry ([.ref adB, .int (8 : Int32), .int (nI X), .int (nI Y), .ref adW, .ref adG, .ref adN]) (n := 18) (Nat.le_of_ble_eq_true rfl)
  rw [lg_entry_eq]
  generalize (lg_sl ([.ref adB, .int (8 : Int32), .int (nI X), .int (nI Y), .ref adW, .ref adG, .ref adN]) ++ List.replicate (18 - (lg_sl ([.ref adB, .int (8 : Int32), .int (nI X), .int (nI Y), .ref adW, .ref adG, .ref adN])).length) Slot.unset).toArray = ls at hl ⊢
  have hl : lv_has ls 18 [(0, .ref adB), (1, .int (8 : Int32)), (2, .int (nI X)), (3, .int (nI Y)), (4, .ref adW), (5, .ref adG), (6, .ref adN)] := hl
  refine hh_name (fun Q hQ => ?_)
  have K := fx_mk hx hb hml hown hts hG hK hlf
  have hcs : (0 : Nat) ≤ 0 ∧ (0 : Nat) ≤ 0 := ⟨Nat.zero_le _, Nat.zero_le _⟩
  refine lv_iload_n hx hb dL_step_0 rfl (lv_at hl 2 rfl) ?_
  refine lv_iconst (v := 3) hx hb dL_step_1 (by decide) ?_
  refine lv_irem hx hb dL_step_2 (by decide) ?_
  refine hh_seti (y := (nI ((X % 3)))) (lwMod (a := X) (b := 3) (by omega) (by decide) (by decide) rfl) ?_
  refine hh_seti (y := nI k) (by rw [hXk]) ?_
  refine lv_istore (lv' := [(7, .int (nI k)), (0, .ref adB), (1, .int (8 : Int32)), (2, .int (nI X)), (3, .int (nI Y)), (4, .ref adW), (5, .ref adG), (6, .ref adN)]) hx hb dL_step_3 hl (by decide) rfl (fun ls hl => ?_)
  refine lv_bipush (v := 20) hx hb dL_step_5 (by decide) ?_
  refine lv_iload hx hb dL_step_7 (lv_at hl 0 rfl) ?_
  refine lv_imul hx hb dL_step_9 ?_
  refine hh_seti (y := (nI (20 * k))) (lwMul (a := 20) (b := k) (by omega)) ?_
  refine lv_istore (lv' := [(8, .int (nI (20 * k))), (7, .int (nI k)), (0, .ref adB), (1, .int (8 : Int32)), (2, .int (nI X)), (3, .int (nI Y)), (4, .ref adW), (5, .ref adG), (6, .ref adN)]) hx hb dL_step_10 hl (by decide) rfl (fun ls hl => ?_)
  refine lv_iload_n hx hb dL_step_12 rfl (lv_at hl 3 rfl) ?_
  refine lv_tableIn (off := 761) (tgt := 774) hx hb dL_step_13 (by decide) (by decide) rfl (by decide) ?_
  refine lv_iload_n hx hb dL_step_774 rfl (lv_at hl 5 rfl) ?_
  refine lv_iconst (v := 2) hx hb dL_step_775 (by decide) ?_
  refine lv_irem hx hb dL_step_776 (by decide) ?_
  refine hh_seti (y := (nI ((Y % 2)))) (lwMod (a := Y) (b := 2) (by omega) (by decide) (by decide) rfl) ?_
  refine lv_if_ne (tgt := 784) hx hb dL_step_777 (by decide) (fun h777 => ?_) (fun h777 => ?_)
  · skip
    refine lv_iconst (v := 0) hx hb dL_step_784 (by decide) ?_
    refine lv_istore (lv' := [(16, .int (0 : Int32)), (8, .int (nI (20 * k))), (7, .int (nI k)), (0, .ref adB), (1, .int (8 : Int32)), (2, .int (nI X)), (3, .int (nI Y)), (4, .ref adW), (5, .ref adG), (6, .ref adN)]) hx hb dL_step_785 hl (by decide) rfl (fun ls hl => ?_)
    refine lv_iload hx hb dL_step_787 (lv_at hl 2 rfl) ?_
    refine lv_if_le (tgt := 812) hx hb dL_step_789 (by decide) (fun h789 => ?_) (fun h789 => ?_)
    · skip
      have hk0 : k = 0 := by have z := (nI_leI (a := k) (b := 0) (by omega) (by omega)).mp h789; omega
      refine lv_iconst (v := 0) hx hb dL_step_812 (by decide) ?_
      refine lv_istore (lv' := [(17, .int (0 : Int32)), (16, .int (0 : Int32)), (8, .int (nI (20 * k))), (7, .int (nI k)), (0, .ref adB), (1, .int (8 : Int32)), (2, .int (nI X)), (3, .int (nI Y)), (4, .ref adW), (5, .ref adG), (6, .ref adN)]) hx hb dL_step_813 hl (by decide) rfl (fun ls hl => ?_)
      refine lv_aload hx hb dL_step_815 (lv_at hl 8 rfl) ?_
      refine lv_iload hx hb dL_step_817 (lv_at hl 2 rfl) ?_
      refine lv_bipush (v := 8) hx hb dL_step_819 (by decide) ?_
      refine lv_iadd hx hb dL_step_821 ?_
      refine hh_seti (y := (nI (20 * k + 8))) (lwAdd (a := 20 * k) (b := 8) (by omega)) ?_
      refine lv_iload hx hb dL_step_822 (lv_at hl 1 rfl) ?_
      refine lv_if_eq (tgt := 831) hx hb dL_step_824 (by decide) (fun _ => ?_) (fun h9 => absurd h9 (by decide))
      refine lv_lconst (v := 0) hx hb dL_step_831 (by decide) ?_
      refine lr_ls hx hb hK hP hD hS 0 1 (e0 := 20 * k + 8) rfl rfl (by omega) (by decide) dL_step_832 (w1 := ([zAJ cJ adW 60 (vp_updL fw (20 * k + 8) (0 : Int64)), zAJ cJ adU 33 fu, zAJ cJ adG 60 fg, zAI cI adN 6 fn] ++ wB cI cJ cO adB adA lf bs a T)) rfl (fun H locs hP hD hS => ?_)
      refine lv_aload hx hb dL_step_833 (lv_at hl 8 rfl) ?_
      refine lv_iload hx hb dL_step_835 (lv_at hl 2 rfl) ?_
      refine lv_bipush (v := 9) hx hb dL_step_837 (by decide) ?_
      refine lv_iadd hx hb dL_step_839 ?_
      refine hh_seti (y := (nI (20 * k + 9))) (lwAdd (a := 20 * k) (b := 9) (by omega)) ?_
      refine lv_iload hx hb dL_step_840 (lv_at hl 0 rfl) ?_
      refine lv_if_eq (tgt := 849) hx hb dL_step_842 (by decide) (fun _ => ?_) (fun h9 => absurd h9 (by decide))
      refine lv_lconst (v := 0) hx hb dL_step_849 (by decide) ?_
      refine lr_ls hx hb hK hP hD hS 0 1 (e0 := 20 * k + 9) rfl rfl (by omega) (by decide) dL_step_850 (w1 := ([zAJ cJ adW 60 (vp_updL (vp_updL fw (20 * k + 8) (0 : Int64)) (20 * k + 9) (0 : Int64)), zAJ cJ adU 33 fu, zAJ cJ adG 60 fg, zAI cI adN 6 fn] ++ wB cI cJ cO adB adA lf bs a T)) rfl (fun H locs hP hD hS => ?_)
      refine lv_aload_n hx hb dL_step_851 rfl (lv_at hl 4 rfl) ?_
      refine lv_iload hx hb dL_step_852 (lv_at hl 3 rfl) ?_
      refine lv_iload hx hb dL_step_854 (lv_at hl 1 rfl) ?_
      refine lv_iload hx hb dL_step_856 (lv_at hl 0 rfl) ?_
      refine s_setTies (k := k) (fov := (0 : Int32)) (mav := (0 : Int32)) K hk (by decide) (by decide) (st_q6 hk (fun _ => rfl)) (st_q7 (fun _ => st_m0 hR hk0)) ⟨Nat.le_of_ble_eq_true rfl, Nat.le_of_ble_eq_true rfl⟩ hcs (Nat.le_of_ble_eq_true rfl) hP hD hS hA hl.1 dL_step_858 (fun H locs hP hD hS => ?_)
      refine lv_iconst (v := 1) hx hb dL_step_861 (by decide) ?_
      exact hh_retS (w := fun (u : (Nat → Int64) × (Nat → Int64) × (Nat → Int32) × (Nat → LT)) => ([zAJ cJ adW 60 u.1, zAJ cJ adU 33 fu, zAJ cJ adG 60 u.2.1, zAI cI adN 6 u.2.2.1] ++ wB cI cJ cO adB adA lf bs a u.2.2.2)) (((vp_updL (vp_updL fw (20 * k + 8) (0 : Int64)) (20 * k + 9) (0 : Int64)), fg, fn, (upT T k (lu_setTies (T k) (0 : Int32) (0 : Int32))))) hQ (⟨rfl, SP_mk (op_setTies hR (Or.inl rfl) (Or.inl rfl) rfl rfl (fun q => absurd q (st_m0 hR hk0)) (fun _ => rfl)) (by intro i hi; (try dsimp only); repeat rw [ul_ne _ _ (by omega)]) (fun _ _ => rfl) (fun _ _ _ => rfl)⟩) (rfl) hx hb hr hlocks hP hK hD hS dL_step_862
    · skip
      have hk1 : ¬ k = 0 := fun z => h789 (by rw [z]; decide)
      refine lv_iload_n hx hb dL_step_792 rfl (lv_at hl 6 rfl) ?_
      refine lv_iconst (v := 3) hx hb dL_step_793 (by decide) ?_
      refine lv_irem hx hb dL_step_794 (by decide) ?_
      refine hh_seti (y := (nI ((Y % 3)))) (lwMod (a := Y) (b := 3) (by omega) (by decide) (by decide) rfl) ?_
      refine lv_if_gt (tgt := 808) hx hb dL_step_795 (by decide) (fun h795 => ?_) (fun h795 => ?_)
      · skip
        refine lv_iconst (v := 1) hx hb dL_step_808 (by decide) ?_
        refine lv_goto (tgt := 813) hx hb dL_step_809 (by decide) ?_
        refine lv_istore (lv' := [(17, .int (1 : Int32)), (16, .int (0 : Int32)), (8, .int (nI (20 * k))), (7, .int (nI k)), (0, .ref adB), (1, .int (8 : Int32)), (2, .int (nI X)), (3, .int (nI Y)), (4, .ref adW), (5, .ref adG), (6, .ref adN)]) hx hb dL_step_813 hl (by decide) rfl (fun ls hl => ?_)
        refine lv_aload hx hb dL_step_815 (lv_at hl 8 rfl) ?_
        refine lv_iload hx hb dL_step_817 (lv_at hl 2 rfl) ?_
        refine lv_bipush (v := 8) hx hb dL_step_819 (by decide) ?_
        refine lv_iadd hx hb dL_step_821 ?_
        refine hh_seti (y := (nI (20 * k + 8))) (lwAdd (a := 20 * k) (b := 8) (by omega)) ?_
        refine lv_iload hx hb dL_step_822 (lv_at hl 1 rfl) ?_
        refine lv_if_eq (tgt := 831) hx hb dL_step_824 (by decide) (fun _ => ?_) (fun h9 => absurd h9 (by decide))
        refine lv_lconst (v := 0) hx hb dL_step_831 (by decide) ?_
        refine lr_ls hx hb hK hP hD hS 0 1 (e0 := 20 * k + 8) rfl rfl (by omega) (by decide) dL_step_832 (w1 := ([zAJ cJ adW 60 (vp_updL fw (20 * k + 8) (0 : Int64)), zAJ cJ adU 33 fu, zAJ cJ adG 60 fg, zAI cI adN 6 fn] ++ wB cI cJ cO adB adA lf bs a T)) rfl (fun H locs hP hD hS => ?_)
        refine lv_aload hx hb dL_step_833 (lv_at hl 8 rfl) ?_
        refine lv_iload hx hb dL_step_835 (lv_at hl 2 rfl) ?_
        refine lv_bipush (v := 9) hx hb dL_step_837 (by decide) ?_
        refine lv_iadd hx hb dL_step_839 ?_
        refine hh_seti (y := (nI (20 * k + 9))) (lwAdd (a := 20 * k) (b := 9) (by omega)) ?_
        refine lv_iload hx hb dL_step_840 (lv_at hl 0 rfl) ?_
        refine lv_if_eq (tgt := 849) hx hb dL_step_842 (by decide) (fun h9 => absurd h9 (by decide)) (fun _ => ?_)
        refine lv_lconst (v := 1) hx hb dL_step_845 (by decide) ?_
        refine lv_goto (tgt := 850) hx hb dL_step_846 (by decide) ?_
        refine lr_ls hx hb hK hP hD hS 0 1 (e0 := 20 * k + 9) rfl rfl (by omega) (by decide) dL_step_850 (w1 := ([zAJ cJ adW 60 (vp_updL (vp_updL fw (20 * k + 8) (0 : Int64)) (20 * k + 9) (1 : Int64)), zAJ cJ adU 33 fu, zAJ cJ adG 60 fg, zAI cI adN 6 fn] ++ wB cI cJ cO adB adA lf bs a T)) rfl (fun H locs hP hD hS => ?_)
        refine lv_aload_n hx hb dL_step_851 rfl (lv_at hl 4 rfl) ?_
        refine lv_iload hx hb dL_step_852 (lv_at hl 3 rfl) ?_
        refine lv_iload hx hb dL_step_854 (lv_at hl 1 rfl) ?_
        refine lv_iload hx hb dL_step_856 (lv_at hl 0 rfl) ?_
        refine s_setTies (k := k) (fov := (0 : Int32)) (mav := (1 : Int32)) K hk (by decide) (by decide) (st_q6 hk (fun q => absurd q hk1)) (st_q7 (fun q => absurd q (by decide))) ⟨Nat.le_of_ble_eq_true rfl, Nat.le_of_ble_eq_true rfl⟩ hcs (Nat.le_of_ble_eq_true rfl) hP hD hS hA hl.1 dL_step_858 (fun H locs hP hD hS => ?_)
        refine lv_iconst (v := 1) hx hb dL_step_861 (by decide) ?_
        exact hh_retS (w := fun (u : (Nat → Int64) × (Nat → Int64) × (Nat → Int32) × (Nat → LT)) => ([zAJ cJ adW 60 u.1, zAJ cJ adU 33 fu, zAJ cJ adG 60 u.2.1, zAI cI adN 6 u.2.2.1] ++ wB cI cJ cO adB adA lf bs a u.2.2.2)) (((vp_updL (vp_updL fw (20 * k + 8) (0 : Int64)) (20 * k + 9) (1 : Int64)), fg, fn, (upT T k (lu_setTies (T k) (0 : Int32) (1 : Int32))))) hQ (⟨rfl, SP_mk (op_setTies hR (Or.inl rfl) (Or.inr rfl) rfl rfl (fun _ => rfl) (fun q => absurd q hk1)) (by intro i hi; (try dsimp only); repeat rw [ul_ne _ _ (by omega)]) (fun _ _ => rfl) (fun _ _ _ => rfl)⟩) (rfl) hx hb hr hlocks hP hK hD hS dL_step_862
      · skip
        refine lv_aload_n hx hb dL_step_798 rfl (lv_at hl 3 rfl) ?_
        refine lv_iload hx hb dL_step_799 (lv_at hl 2 rfl) ?_
        refine s_mode (k := k)  K hk  ⟨Nat.le_of_ble_eq_true rfl, Nat.le_of_ble_eq_true rfl⟩ hcs (Nat.le_of_ble_eq_true rfl) hP hD hS hA hl.1 dL_step_801 (fun H locs hP hD hS => ?_)
        refine hh_seti (y := (yl_lmo (T k))) (rfl) ?_
        refine lv_iconst (v := 2) hx hb dL_step_804 (by decide) ?_
        refine lv_icmp_ne (tgt := 812) hx hb dL_step_805 (by decide) (fun hm2 => ?_) (fun hm2 => ?_)
        · skip
          refine lv_iconst (v := 0) hx hb dL_step_812 (by decide) ?_
          refine lv_istore (lv' := [(17, .int (0 : Int32)), (16, .int (0 : Int32)), (8, .int (nI (20 * k))), (7, .int (nI k)), (0, .ref adB), (1, .int (8 : Int32)), (2, .int (nI X)), (3, .int (nI Y)), (4, .ref adW), (5, .ref adG), (6, .ref adN)]) hx hb dL_step_813 hl (by decide) rfl (fun ls hl => ?_)
          refine lv_aload hx hb dL_step_815 (lv_at hl 8 rfl) ?_
          refine lv_iload hx hb dL_step_817 (lv_at hl 2 rfl) ?_
          refine lv_bipush (v := 8) hx hb dL_step_819 (by decide) ?_
          refine lv_iadd hx hb dL_step_821 ?_
          refine hh_seti (y := (nI (20 * k + 8))) (lwAdd (a := 20 * k) (b := 8) (by omega)) ?_
          refine lv_iload hx hb dL_step_822 (lv_at hl 1 rfl) ?_
          refine lv_if_eq (tgt := 831) hx hb dL_step_824 (by decide) (fun _ => ?_) (fun h9 => absurd h9 (by decide))
          refine lv_lconst (v := 0) hx hb dL_step_831 (by decide) ?_
          refine lr_ls hx hb hK hP hD hS 0 1 (e0 := 20 * k + 8) rfl rfl (by omega) (by decide) dL_step_832 (w1 := ([zAJ cJ adW 60 (vp_updL fw (20 * k + 8) (0 : Int64)), zAJ cJ adU 33 fu, zAJ cJ adG 60 fg, zAI cI adN 6 fn] ++ wB cI cJ cO adB adA lf bs a T)) rfl (fun H locs hP hD hS => ?_)
          refine lv_aload hx hb dL_step_833 (lv_at hl 8 rfl) ?_
          refine lv_iload hx hb dL_step_835 (lv_at hl 2 rfl) ?_
          refine lv_bipush (v := 9) hx hb dL_step_837 (by decide) ?_
          refine lv_iadd hx hb dL_step_839 ?_
          refine hh_seti (y := (nI (20 * k + 9))) (lwAdd (a := 20 * k) (b := 9) (by omega)) ?_
          refine lv_iload hx hb dL_step_840 (lv_at hl 0 rfl) ?_
          refine lv_if_eq (tgt := 849) hx hb dL_step_842 (by decide) (fun _ => ?_) (fun h9 => absurd h9 (by decide))
          refine lv_lconst (v := 0) hx hb dL_step_849 (by decide) ?_
          refine lr_ls hx hb hK hP hD hS 0 1 (e0 := 20 * k + 9) rfl rfl (by omega) (by decide) dL_step_850 (w1 := ([zAJ cJ adW 60 (vp_updL (vp_updL fw (20 * k + 8) (0 : Int64)) (20 * k + 9) (0 : Int64)), zAJ cJ adU 33 fu, zAJ cJ adG 60 fg, zAI cI adN 6 fn] ++ wB cI cJ cO adB adA lf bs a T)) rfl (fun H locs hP hD hS => ?_)
          refine lv_aload_n hx hb dL_step_851 rfl (lv_at hl 4 rfl) ?_
          refine lv_iload hx hb dL_step_852 (lv_at hl 3 rfl) ?_
          refine lv_iload hx hb dL_step_854 (lv_at hl 1 rfl) ?_
          refine lv_iload hx hb dL_step_856 (lv_at hl 0 rfl) ?_
          refine s_setTies (k := k) (fov := (0 : Int32)) (mav := (0 : Int32)) K hk (by decide) (by decide) (st_q6 hk (fun q => absurd q hk1)) (st_q7 (fun _ => hm2)) ⟨Nat.le_of_ble_eq_true rfl, Nat.le_of_ble_eq_true rfl⟩ hcs (Nat.le_of_ble_eq_true rfl) hP hD hS hA hl.1 dL_step_858 (fun H locs hP hD hS => ?_)
          refine lv_iconst (v := 1) hx hb dL_step_861 (by decide) ?_
          exact hh_retS (w := fun (u : (Nat → Int64) × (Nat → Int64) × (Nat → Int32) × (Nat → LT)) => ([zAJ cJ adW 60 u.1, zAJ cJ adU 33 fu, zAJ cJ adG 60 u.2.1, zAI cI adN 6 u.2.2.1] ++ wB cI cJ cO adB adA lf bs a u.2.2.2)) (((vp_updL (vp_updL fw (20 * k + 8) (0 : Int64)) (20 * k + 9) (0 : Int64)), fg, fn, (upT T k (lu_setTies (T k) (0 : Int32) (0 : Int32))))) hQ (⟨rfl, SP_mk (op_setTies hR (Or.inl rfl) (Or.inl rfl) rfl rfl (fun q => absurd q hm2) (fun q => absurd q hk1)) (by intro i hi; (try dsimp only); repeat rw [ul_ne _ _ (by omega)]) (fun _ _ => rfl) (fun _ _ _ => rfl)⟩) (rfl) hx hb hr hlocks hP hK hD hS dL_step_862
        · skip
          refine lv_iconst (v := 1) hx hb dL_step_808 (by decide) ?_
          refine lv_goto (tgt := 813) hx hb dL_step_809 (by decide) ?_
          refine lv_istore (lv' := [(17, .int (1 : Int32)), (16, .int (0 : Int32)), (8, .int (nI (20 * k))), (7, .int (nI k)), (0, .ref adB), (1, .int (8 : Int32)), (2, .int (nI X)), (3, .int (nI Y)), (4, .ref adW), (5, .ref adG), (6, .ref adN)]) hx hb dL_step_813 hl (by decide) rfl (fun ls hl => ?_)
          refine lv_aload hx hb dL_step_815 (lv_at hl 8 rfl) ?_
          refine lv_iload hx hb dL_step_817 (lv_at hl 2 rfl) ?_
          refine lv_bipush (v := 8) hx hb dL_step_819 (by decide) ?_
          refine lv_iadd hx hb dL_step_821 ?_
          refine hh_seti (y := (nI (20 * k + 8))) (lwAdd (a := 20 * k) (b := 8) (by omega)) ?_
          refine lv_iload hx hb dL_step_822 (lv_at hl 1 rfl) ?_
          refine lv_if_eq (tgt := 831) hx hb dL_step_824 (by decide) (fun _ => ?_) (fun h9 => absurd h9 (by decide))
          refine lv_lconst (v := 0) hx hb dL_step_831 (by decide) ?_
          refine lr_ls hx hb hK hP hD hS 0 1 (e0 := 20 * k + 8) rfl rfl (by omega) (by decide) dL_step_832 (w1 := ([zAJ cJ adW 60 (vp_updL fw (20 * k + 8) (0 : Int64)), zAJ cJ adU 33 fu, zAJ cJ adG 60 fg, zAI cI adN 6 fn] ++ wB cI cJ cO adB adA lf bs a T)) rfl (fun H locs hP hD hS => ?_)
          refine lv_aload hx hb dL_step_833 (lv_at hl 8 rfl) ?_
          refine lv_iload hx hb dL_step_835 (lv_at hl 2 rfl) ?_
          refine lv_bipush (v := 9) hx hb dL_step_837 (by decide) ?_
          refine lv_iadd hx hb dL_step_839 ?_
          refine hh_seti (y := (nI (20 * k + 9))) (lwAdd (a := 20 * k) (b := 9) (by omega)) ?_
          refine lv_iload hx hb dL_step_840 (lv_at hl 0 rfl) ?_
          refine lv_if_eq (tgt := 849) hx hb dL_step_842 (by decide) (fun h9 => absurd h9 (by decide)) (fun _ => ?_)
          refine lv_lconst (v := 1) hx hb dL_step_845 (by decide) ?_
          refine lv_goto (tgt := 850) hx hb dL_step_846 (by decide) ?_
          refine lr_ls hx hb hK hP hD hS 0 1 (e0 := 20 * k + 9) rfl rfl (by omega) (by decide) dL_step_850 (w1 := ([zAJ cJ adW 60 (vp_updL (vp_updL fw (20 * k + 8) (0 : Int64)) (20 * k + 9) (1 : Int64)), zAJ cJ adU 33 fu, zAJ cJ adG 60 fg, zAI cI adN 6 fn] ++ wB cI cJ cO adB adA lf bs a T)) rfl (fun H locs hP hD hS => ?_)
          refine lv_aload_n hx hb dL_step_851 rfl (lv_at hl 4 rfl) ?_
          refine lv_iload hx hb dL_step_852 (lv_at hl 3 rfl) ?_
          refine lv_iload hx hb dL_step_854 (lv_at hl 1 rfl) ?_
          refine lv_iload hx hb dL_step_856 (lv_at hl 0 rfl) ?_
          refine s_setTies (k := k) (fov := (0 : Int32)) (mav := (1 : Int32)) K hk (by decide) (by decide) (st_q6 hk (fun q => absurd q hk1)) (st_q7 (fun q => absurd q (by decide))) ⟨Nat.le_of_ble_eq_true rfl, Nat.le_of_ble_eq_true rfl⟩ hcs (Nat.le_of_ble_eq_true rfl) hP hD hS hA hl.1 dL_step_858 (fun H locs hP hD hS => ?_)
          refine lv_iconst (v := 1) hx hb dL_step_861 (by decide) ?_
          exact hh_retS (w := fun (u : (Nat → Int64) × (Nat → Int64) × (Nat → Int32) × (Nat → LT)) => ([zAJ cJ adW 60 u.1, zAJ cJ adU 33 fu, zAJ cJ adG 60 u.2.1, zAI cI adN 6 u.2.2.1] ++ wB cI cJ cO adB adA lf bs a u.2.2.2)) (((vp_updL (vp_updL fw (20 * k + 8) (0 : Int64)) (20 * k + 9) (1 : Int64)), fg, fn, (upT T k (lu_setTies (T k) (0 : Int32) (1 : Int32))))) hQ (⟨rfl, SP_mk (op_setTies hR (Or.inl rfl) (Or.inr rfl) rfl rfl (fun _ => rfl) (fun q => absurd q hk1)) (by intro i hi; (try dsimp only); repeat rw [ul_ne _ _ (by omega)]) (fun _ _ => rfl) (fun _ _ _ => rfl)⟩) (rfl) hx hb hr hlocks hP hK hD hS dL_step_862
  · skip
    refine lv_iconst (v := 1) hx hb dL_step_780 (by decide) ?_
    refine lv_goto (tgt := 785) hx hb dL_step_781 (by decide) ?_
    refine lv_istore (lv' := [(16, .int (1 : Int32)), (8, .int (nI (20 * k))), (7, .int (nI k)), (0, .ref adB), (1, .int (8 : Int32)), (2, .int (nI X)), (3, .int (nI Y)), (4, .ref adW), (5, .ref adG), (6, .ref adN)]) hx hb dL_step_785 hl (by decide) rfl (fun ls hl => ?_)
    refine lv_iload hx hb dL_step_787 (lv_at hl 2 rfl) ?_
    refine lv_if_le (tgt := 812) hx hb dL_step_789 (by decide) (fun h789 => ?_) (fun h789 => ?_)
    · skip
      have hk0 : k = 0 := by have z := (nI_leI (a := k) (b := 0) (by omega) (by omega)).mp h789; omega
      refine lv_iconst (v := 0) hx hb dL_step_812 (by decide) ?_
      refine lv_istore (lv' := [(17, .int (0 : Int32)), (16, .int (1 : Int32)), (8, .int (nI (20 * k))), (7, .int (nI k)), (0, .ref adB), (1, .int (8 : Int32)), (2, .int (nI X)), (3, .int (nI Y)), (4, .ref adW), (5, .ref adG), (6, .ref adN)]) hx hb dL_step_813 hl (by decide) rfl (fun ls hl => ?_)
      refine lv_aload hx hb dL_step_815 (lv_at hl 8 rfl) ?_
      refine lv_iload hx hb dL_step_817 (lv_at hl 2 rfl) ?_
      refine lv_bipush (v := 8) hx hb dL_step_819 (by decide) ?_
      refine lv_iadd hx hb dL_step_821 ?_
      refine hh_seti (y := (nI (20 * k + 8))) (lwAdd (a := 20 * k) (b := 8) (by omega)) ?_
      refine lv_iload hx hb dL_step_822 (lv_at hl 1 rfl) ?_
      refine lv_if_eq (tgt := 831) hx hb dL_step_824 (by decide) (fun h9 => absurd h9 (by decide)) (fun _ => ?_)
      refine lv_lconst (v := 1) hx hb dL_step_827 (by decide) ?_
      refine lv_goto (tgt := 832) hx hb dL_step_828 (by decide) ?_
      refine lr_ls hx hb hK hP hD hS 0 1 (e0 := 20 * k + 8) rfl rfl (by omega) (by decide) dL_step_832 (w1 := ([zAJ cJ adW 60 (vp_updL fw (20 * k + 8) (1 : Int64)), zAJ cJ adU 33 fu, zAJ cJ adG 60 fg, zAI cI adN 6 fn] ++ wB cI cJ cO adB adA lf bs a T)) rfl (fun H locs hP hD hS => ?_)
      refine lv_aload hx hb dL_step_833 (lv_at hl 8 rfl) ?_
      refine lv_iload hx hb dL_step_835 (lv_at hl 2 rfl) ?_
      refine lv_bipush (v := 9) hx hb dL_step_837 (by decide) ?_
      refine lv_iadd hx hb dL_step_839 ?_
      refine hh_seti (y := (nI (20 * k + 9))) (lwAdd (a := 20 * k) (b := 9) (by omega)) ?_
      refine lv_iload hx hb dL_step_840 (lv_at hl 0 rfl) ?_
      refine lv_if_eq (tgt := 849) hx hb dL_step_842 (by decide) (fun _ => ?_) (fun h9 => absurd h9 (by decide))
      refine lv_lconst (v := 0) hx hb dL_step_849 (by decide) ?_
      refine lr_ls hx hb hK hP hD hS 0 1 (e0 := 20 * k + 9) rfl rfl (by omega) (by decide) dL_step_850 (w1 := ([zAJ cJ adW 60 (vp_updL (vp_updL fw (20 * k + 8) (1 : Int64)) (20 * k + 9) (0 : Int64)), zAJ cJ adU 33 fu, zAJ cJ adG 60 fg, zAI cI adN 6 fn] ++ wB cI cJ cO adB adA lf bs a T)) rfl (fun H locs hP hD hS => ?_)
      refine lv_aload_n hx hb dL_step_851 rfl (lv_at hl 4 rfl) ?_
      refine lv_iload hx hb dL_step_852 (lv_at hl 3 rfl) ?_
      refine lv_iload hx hb dL_step_854 (lv_at hl 1 rfl) ?_
      refine lv_iload hx hb dL_step_856 (lv_at hl 0 rfl) ?_
      refine s_setTies (k := k) (fov := (1 : Int32)) (mav := (0 : Int32)) K hk (by decide) (by decide) (st_q6 hk (fun _ => rfl)) (st_q7 (fun _ => st_m0 hR hk0)) ⟨Nat.le_of_ble_eq_true rfl, Nat.le_of_ble_eq_true rfl⟩ hcs (Nat.le_of_ble_eq_true rfl) hP hD hS hA hl.1 dL_step_858 (fun H locs hP hD hS => ?_)
      refine lv_iconst (v := 1) hx hb dL_step_861 (by decide) ?_
      exact hh_retS (w := fun (u : (Nat → Int64) × (Nat → Int64) × (Nat → Int32) × (Nat → LT)) => ([zAJ cJ adW 60 u.1, zAJ cJ adU 33 fu, zAJ cJ adG 60 u.2.1, zAI cI adN 6 u.2.2.1] ++ wB cI cJ cO adB adA lf bs a u.2.2.2)) (((vp_updL (vp_updL fw (20 * k + 8) (1 : Int64)) (20 * k + 9) (0 : Int64)), fg, fn, (upT T k (lu_setTies (T k) (1 : Int32) (0 : Int32))))) hQ (⟨rfl, SP_mk (op_setTies hR (Or.inr rfl) (Or.inl rfl) rfl rfl (fun q => absurd q (st_m0 hR hk0)) (fun _ => rfl)) (by intro i hi; (try dsimp only); repeat rw [ul_ne _ _ (by omega)]) (fun _ _ => rfl) (fun _ _ _ => rfl)⟩) (rfl) hx hb hr hlocks hP hK hD hS dL_step_862
    · skip
      have hk1 : ¬ k = 0 := fun z => h789 (by rw [z]; decide)
      refine lv_iload_n hx hb dL_step_792 rfl (lv_at hl 6 rfl) ?_
      refine lv_iconst (v := 3) hx hb dL_step_793 (by decide) ?_
      refine lv_irem hx hb dL_step_794 (by decide) ?_
      refine hh_seti (y := (nI ((Y % 3)))) (lwMod (a := Y) (b := 3) (by omega) (by decide) (by decide) rfl) ?_
      refine lv_if_gt (tgt := 808) hx hb dL_step_795 (by decide) (fun h795 => ?_) (fun h795 => ?_)
      · skip
        refine lv_iconst (v := 1) hx hb dL_step_808 (by decide) ?_
        refine lv_goto (tgt := 813) hx hb dL_step_809 (by decide) ?_
        refine lv_istore (lv' := [(17, .int (1 : Int32)), (16, .int (1 : Int32)), (8, .int (nI (20 * k))), (7, .int (nI k)), (0, .ref adB), (1, .int (8 : Int32)), (2, .int (nI X)), (3, .int (nI Y)), (4, .ref adW), (5, .ref adG), (6, .ref adN)]) hx hb dL_step_813 hl (by decide) rfl (fun ls hl => ?_)
        refine lv_aload hx hb dL_step_815 (lv_at hl 8 rfl) ?_
        refine lv_iload hx hb dL_step_817 (lv_at hl 2 rfl) ?_
        refine lv_bipush (v := 8) hx hb dL_step_819 (by decide) ?_
        refine lv_iadd hx hb dL_step_821 ?_
        refine hh_seti (y := (nI (20 * k + 8))) (lwAdd (a := 20 * k) (b := 8) (by omega)) ?_
        refine lv_iload hx hb dL_step_822 (lv_at hl 1 rfl) ?_
        refine lv_if_eq (tgt := 831) hx hb dL_step_824 (by decide) (fun h9 => absurd h9 (by decide)) (fun _ => ?_)
        refine lv_lconst (v := 1) hx hb dL_step_827 (by decide) ?_
        refine lv_goto (tgt := 832) hx hb dL_step_828 (by decide) ?_
        refine lr_ls hx hb hK hP hD hS 0 1 (e0 := 20 * k + 8) rfl rfl (by omega) (by decide) dL_step_832 (w1 := ([zAJ cJ adW 60 (vp_updL fw (20 * k + 8) (1 : Int64)), zAJ cJ adU 33 fu, zAJ cJ adG 60 fg, zAI cI adN 6 fn] ++ wB cI cJ cO adB adA lf bs a T)) rfl (fun H locs hP hD hS => ?_)
        refine lv_aload hx hb dL_step_833 (lv_at hl 8 rfl) ?_
        refine lv_iload hx hb dL_step_835 (lv_at hl 2 rfl) ?_
        refine lv_bipush (v := 9) hx hb dL_step_837 (by decide) ?_
        refine lv_iadd hx hb dL_step_839 ?_
        refine hh_seti (y := (nI (20 * k + 9))) (lwAdd (a := 20 * k) (b := 9) (by omega)) ?_
        refine lv_iload hx hb dL_step_840 (lv_at hl 0 rfl) ?_
        refine lv_if_eq (tgt := 849) hx hb dL_step_842 (by decide) (fun h9 => absurd h9 (by decide)) (fun _ => ?_)
        refine lv_lconst (v := 1) hx hb dL_step_845 (by decide) ?_
        refine lv_goto (tgt := 850) hx hb dL_step_846 (by decide) ?_
        refine lr_ls hx hb hK hP hD hS 0 1 (e0 := 20 * k + 9) rfl rfl (by omega) (by decide) dL_step_850 (w1 := ([zAJ cJ adW 60 (vp_updL (vp_updL fw (20 * k + 8) (1 : Int64)) (20 * k + 9) (1 : Int64)), zAJ cJ adU 33 fu, zAJ cJ adG 60 fg, zAI cI adN 6 fn] ++ wB cI cJ cO adB adA lf bs a T)) rfl (fun H locs hP hD hS => ?_)
        refine lv_aload_n hx hb dL_step_851 rfl (lv_at hl 4 rfl) ?_
        refine lv_iload hx hb dL_step_852 (lv_at hl 3 rfl) ?_
        refine lv_iload hx hb dL_step_854 (lv_at hl 1 rfl) ?_
        refine lv_iload hx hb dL_step_856 (lv_at hl 0 rfl) ?_
        refine s_setTies (k := k) (fov := (1 : Int32)) (mav := (1 : Int32)) K hk (by decide) (by decide) (st_q6 hk (fun q => absurd q hk1)) (st_q7 (fun q => absurd q (by decide))) ⟨Nat.le_of_ble_eq_true rfl, Nat.le_of_ble_eq_true rfl⟩ hcs (Nat.le_of_ble_eq_true rfl) hP hD hS hA hl.1 dL_step_858 (fun H locs hP hD hS => ?_)
        refine lv_iconst (v := 1) hx hb dL_step_861 (by decide) ?_
        exact hh_retS (w := fun (u : (Nat → Int64) × (Nat → Int64) × (Nat → Int32) × (Nat → LT)) => ([zAJ cJ adW 60 u.1, zAJ cJ adU 33 fu, zAJ cJ adG 60 u.2.1, zAI cI adN 6 u.2.2.1] ++ wB cI cJ cO adB adA lf bs a u.2.2.2)) (((vp_updL (vp_updL fw (20 * k + 8) (1 : Int64)) (20 * k + 9) (1 : Int64)), fg, fn, (upT T k (lu_setTies (T k) (1 : Int32) (1 : Int32))))) hQ (⟨rfl, SP_mk (op_setTies hR (Or.inr rfl) (Or.inr rfl) rfl rfl (fun _ => rfl) (fun q => absurd q hk1)) (by intro i hi; (try dsimp only); repeat rw [ul_ne _ _ (by omega)]) (fun _ _ => rfl) (fun _ _ _ => rfl)⟩) (rfl) hx hb hr hlocks hP hK hD hS dL_step_862
      · skip
        refine lv_aload_n hx hb dL_step_798 rfl (lv_at hl 3 rfl) ?_
        refine lv_iload hx hb dL_step_799 (lv_at hl 2 rfl) ?_
        refine s_mode (k := k)  K hk  ⟨Nat.le_of_ble_eq_true rfl, Nat.le_of_ble_eq_true rfl⟩ hcs (Nat.le_of_ble_eq_true rfl) hP hD hS hA hl.1 dL_step_801 (fun H locs hP hD hS => ?_)
        refine hh_seti (y := (yl_lmo (T k))) (rfl) ?_
        refine lv_iconst (v := 2) hx hb dL_step_804 (by decide) ?_
        refine lv_icmp_ne (tgt := 812) hx hb dL_step_805 (by decide) (fun hm2 => ?_) (fun hm2 => ?_)
        · skip
          refine lv_iconst (v := 0) hx hb dL_step_812 (by decide) ?_
          refine lv_istore (lv' := [(17, .int (0 : Int32)), (16, .int (1 : Int32)), (8, .int (nI (20 * k))), (7, .int (nI k)), (0, .ref adB), (1, .int (8 : Int32)), (2, .int (nI X)), (3, .int (nI Y)), (4, .ref adW), (5, .ref adG), (6, .ref adN)]) hx hb dL_step_813 hl (by decide) rfl (fun ls hl => ?_)
          refine lv_aload hx hb dL_step_815 (lv_at hl 8 rfl) ?_
          refine lv_iload hx hb dL_step_817 (lv_at hl 2 rfl) ?_
          refine lv_bipush (v := 8) hx hb dL_step_819 (by decide) ?_
          refine lv_iadd hx hb dL_step_821 ?_
          refine hh_seti (y := (nI (20 * k + 8))) (lwAdd (a := 20 * k) (b := 8) (by omega)) ?_
          refine lv_iload hx hb dL_step_822 (lv_at hl 1 rfl) ?_
          refine lv_if_eq (tgt := 831) hx hb dL_step_824 (by decide) (fun h9 => absurd h9 (by decide)) (fun _ => ?_)
          refine lv_lconst (v := 1) hx hb dL_step_827 (by decide) ?_
          refine lv_goto (tgt := 832) hx hb dL_step_828 (by decide) ?_
          refine lr_ls hx hb hK hP hD hS 0 1 (e0 := 20 * k + 8) rfl rfl (by omega) (by decide) dL_step_832 (w1 := ([zAJ cJ adW 60 (vp_updL fw (20 * k + 8) (1 : Int64)), zAJ cJ adU 33 fu, zAJ cJ adG 60 fg, zAI cI adN 6 fn] ++ wB cI cJ cO adB adA lf bs a T)) rfl (fun H locs hP hD hS => ?_)
          refine lv_aload hx hb dL_step_833 (lv_at hl 8 rfl) ?_
          refine lv_iload hx hb dL_step_835 (lv_at hl 2 rfl) ?_
          refine lv_bipush (v := 9) hx hb dL_step_837 (by decide) ?_
          refine lv_iadd hx hb dL_step_839 ?_
          refine hh_seti (y := (nI (20 * k + 9))) (lwAdd (a := 20 * k) (b := 9) (by omega)) ?_
          refine lv_iload hx hb dL_step_840 (lv_at hl 0 rfl) ?_
          refine lv_if_eq (tgt := 849) hx hb dL_step_842 (by decide) (fun _ => ?_) (fun h9 => absurd h9 (by decide))
          refine lv_lconst (v := 0) hx hb dL_step_849 (by decide) ?_
          refine lr_ls hx hb hK hP hD hS 0 1 (e0 := 20 * k + 9) rfl rfl (by omega) (by decide) dL_step_850 (w1 := ([zAJ cJ adW 60 (vp_updL (vp_updL fw (20 * k + 8) (1 : Int64)) (20 * k + 9) (0 : Int64)), zAJ cJ adU 33 fu, zAJ cJ adG 60 fg, zAI cI adN 6 fn] ++ wB cI cJ cO adB adA lf bs a T)) rfl (fun H locs hP hD hS => ?_)
          refine lv_aload_n hx hb dL_step_851 rfl (lv_at hl 4 rfl) ?_
          refine lv_iload hx hb dL_step_852 (lv_at hl 3 rfl) ?_
          refine lv_iload hx hb dL_step_854 (lv_at hl 1 rfl) ?_
          refine lv_iload hx hb dL_step_856 (lv_at hl 0 rfl) ?_
          refine s_setTies (k := k) (fov := (1 : Int32)) (mav := (0 : Int32)) K hk (by decide) (by decide) (st_q6 hk (fun q => absurd q hk1)) (st_q7 (fun _ => hm2)) ⟨Nat.le_of_ble_eq_true rfl, Nat.le_of_ble_eq_true rfl⟩ hcs (Nat.le_of_ble_eq_true rfl) hP hD hS hA hl.1 dL_step_858 (fun H locs hP hD hS => ?_)
          refine lv_iconst (v := 1) hx hb dL_step_861 (by decide) ?_
          exact hh_retS (w := fun (u : (Nat → Int64) × (Nat → Int64) × (Nat → Int32) × (Nat → LT)) => ([zAJ cJ adW 60 u.1, zAJ cJ adU 33 fu, zAJ cJ adG 60 u.2.1, zAI cI adN 6 u.2.2.1] ++ wB cI cJ cO adB adA lf bs a u.2.2.2)) (((vp_updL (vp_updL fw (20 * k + 8) (1 : Int64)) (20 * k + 9) (0 : Int64)), fg, fn, (upT T k (lu_setTies (T k) (1 : Int32) (0 : Int32))))) hQ (⟨rfl, SP_mk (op_setTies hR (Or.inr rfl) (Or.inl rfl) rfl rfl (fun q => absurd q hm2) (fun q => absurd q hk1)) (by intro i hi; (try dsimp only); repeat rw [ul_ne _ _ (by omega)]) (fun _ _ => rfl) (fun _ _ _ => rfl)⟩) (rfl) hx hb hr hlocks hP hK hD hS dL_step_862
        · skip
          refine lv_iconst (v := 1) hx hb dL_step_808 (by decide) ?_
          refine lv_goto (tgt := 813) hx hb dL_step_809 (by decide) ?_
          refine lv_istore (lv' := [(17, .int (1 : Int32)), (16, .int (1 : Int32)), (8, .int (nI (20 * k))), (7, .int (nI k)), (0, .ref adB), (1, .int (8 : Int32)), (2, .int (nI X)), (3, .int (nI Y)), (4, .ref adW), (5, .ref adG), (6, .ref adN)]) hx hb dL_step_813 hl (by decide) rfl (fun ls hl => ?_)
          refine lv_aload hx hb dL_step_815 (lv_at hl 8 rfl) ?_
          refine lv_iload hx hb dL_step_817 (lv_at hl 2 rfl) ?_
          refine lv_bipush (v := 8) hx hb dL_step_819 (by decide) ?_
          refine lv_iadd hx hb dL_step_821 ?_
          refine hh_seti (y := (nI (20 * k + 8))) (lwAdd (a := 20 * k) (b := 8) (by omega)) ?_
          refine lv_iload hx hb dL_step_822 (lv_at hl 1 rfl) ?_
          refine lv_if_eq (tgt := 831) hx hb dL_step_824 (by decide) (fun h9 => absurd h9 (by decide)) (fun _ => ?_)
          refine lv_lconst (v := 1) hx hb dL_step_827 (by decide) ?_
          refine lv_goto (tgt := 832) hx hb dL_step_828 (by decide) ?_
          refine lr_ls hx hb hK hP hD hS 0 1 (e0 := 20 * k + 8) rfl rfl (by omega) (by decide) dL_step_832 (w1 := ([zAJ cJ adW 60 (vp_updL fw (20 * k + 8) (1 : Int64)), zAJ cJ adU 33 fu, zAJ cJ adG 60 fg, zAI cI adN 6 fn] ++ wB cI cJ cO adB adA lf bs a T)) rfl (fun H locs hP hD hS => ?_)
          refine lv_aload hx hb dL_step_833 (lv_at hl 8 rfl) ?_
          refine lv_iload hx hb dL_step_835 (lv_at hl 2 rfl) ?_
          refine lv_bipush (v := 9) hx hb dL_step_837 (by decide) ?_
          refine lv_iadd hx hb dL_step_839 ?_
          refine hh_seti (y := (nI (20 * k + 9))) (lwAdd (a := 20 * k) (b := 9) (by omega)) ?_
          refine lv_iload hx hb dL_step_840 (lv_at hl 0 rfl) ?_
          refine lv_if_eq (tgt := 849) hx hb dL_step_842 (by decide) (fun h9 => absurd h9 (by decide)) (fun _ => ?_)
          refine lv_lconst (v := 1) hx hb dL_step_845 (by decide) ?_
          refine lv_goto (tgt := 850) hx hb dL_step_846 (by decide) ?_
          refine lr_ls hx hb hK hP hD hS 0 1 (e0 := 20 * k + 9) rfl rfl (by omega) (by decide) dL_step_850 (w1 := ([zAJ cJ adW 60 (vp_updL (vp_updL fw (20 * k + 8) (1 : Int64)) (20 * k + 9) (1 : Int64)), zAJ cJ adU 33 fu, zAJ cJ adG 60 fg, zAI cI adN 6 fn] ++ wB cI cJ cO adB adA lf bs a T)) rfl (fun H locs hP hD hS => ?_)
          refine lv_aload_n hx hb dL_step_851 rfl (lv_at hl 4 rfl) ?_
          refine lv_iload hx hb dL_step_852 (lv_at hl 3 rfl) ?_
          refine lv_iload hx hb dL_step_854 (lv_at hl 1 rfl) ?_
          refine lv_iload hx hb dL_step_856 (lv_at hl 0 rfl) ?_
          refine s_setTies (k := k) (fov := (1 : Int32)) (mav := (1 : Int32)) K hk (by decide) (by decide) (st_q6 hk (fun q => absurd q hk1)) (st_q7 (fun q => absurd q (by decide))) ⟨Nat.le_of_ble_eq_true rfl, Nat.le_of_ble_eq_true rfl⟩ hcs (Nat.le_of_ble_eq_true rfl) hP hD hS hA hl.1 dL_step_858 (fun H locs hP hD hS => ?_)
          refine lv_iconst (v := 1) hx hb dL_step_861 (by decide) ?_
          exact hh_retS (w := fun (u : (Nat → Int64) × (Nat → Int64) × (Nat → Int32) × (Nat → LT)) => ([zAJ cJ adW 60 u.1, zAJ cJ adU 33 fu, zAJ cJ adG 60 u.2.1, zAI cI adN 6 u.2.2.1] ++ wB cI cJ cO adB adA lf bs a u.2.2.2)) (((vp_updL (vp_updL fw (20 * k + 8) (1 : Int64)) (20 * k + 9) (1 : Int64)), fg, fn, (upT T k (lu_setTies (T k) (1 : Int32) (1 : Int32))))) hQ (⟨rfl, SP_mk (op_setTies hR (Or.inr rfl) (Or.inr rfl) rfl rfl (fun _ => rfl) (fun q => absurd q hk1)) (by intro i hi; (try dsimp only); repeat rw [ul_ne _ _ (by omega)]) (fun _ _ => rfl) (fun _ _ _ => rfl)⟩) (rfl) hx hb hr hlocks hP hK hD hS dL_step_862
