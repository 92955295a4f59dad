set_option maxHeartbeats 4000000 in
set_option maxRecDepth 100000 in
theorem c_L_draw (l : Launch) (dC : Nat → ClassId) (dI : Nat → Nat → Nat) (cI cJ cZ cO : ClassId) (b L : Nat) (xs : Nat → Int32) (pl M : Nat) (sz : Nat) (hL : L ≤ 260) (hpl : pl < 1000) (hM0 : 0 < M) (hM : M ≤ 1073741824) : Met l yL_draw (Cond.code yL_draw cL_draw 4 (some .int) :: wAll) ({ frames := 0, cells := 0, slots := 0, locals := 0 }) (va_Pc [.ref b, .int (nI pl), .int (nI M)] (gP (dC, dI) [] (tyG cI cJ cZ cO) sz (gX b L xs))) (va_Qi (fun r (_ : Unit) => ∃ j : Nat, j < M ∧ r = nI j) (fun _ t => gB (dC, dI) (va_A [] sz) [] (tyG cI cJ cZ cO) t) (va_A [] sz)) 0 0 (va_A [] sz) := by
  refine Met.ofW (cc := cL_draw) (maxL := 4) (ret := (some .int)) (by decide) rfl ?_
  intro p e s m args below meth c s₁ B hml hv
  obtain ⟨rfl, hsz, hP, hK, hD0, hGX⟩ := hv
  have hx := B.exec
  have hb := B.bytes
  have hr := B.returns
  have hts := ht_of B.pre
  have hown : s.vm.findClass RL = some m.cls := findClass_of_methodNamed B.named
  have hlocks := B.notSynchronized
  subst hsz
  have hD := hD0.self (sz := s.heap.size)
  have hbA0 := nA_of hGX.2.2
  generalize hAe : va_A [] s.heap.size = A at hD hbA0 ⊢
  have hA : ∀ q : Nat, s.heap.size ≤ q → A q := fun q h => by rw [← hAe]; exact Or.inr h
  have hS : va_S A s.heap s.heap [] := va_S.rf
  have hl := lv_entry ([.ref b, .int (nI pl), .int (nI M)]) (n := 4) (Nat.le_of_ble_eq_true rfl)
  rw [lg_entry_eq]
  generalize (lg_sl ([.ref b, .int (nI pl), .int (nI M)]) ++ List.replicate (4 - (lg_sl ([.ref b, .int (nI pl), .int (nI M)])).length) Slot.unset).toArray = ls at hl ⊢
  have hl : lv_has ls 4 [(0, .ref b), (1, .int (nI pl)), (2, .int (nI M))] := hl
  refine hh_name (fun Q hQ => ?_)
  have hcs : (0 : Nat) ≤ 0 ∧ (0 : Nat) ≤ 0 := ⟨Nat.zero_le _, Nat.zero_le _⟩
  have TAIL : ∀ (v : Int32) (H : Heap) (locs : List Loc) (ls : Array Slot), va_S A s.heap H locs → lv_has ls 4 [(0, .ref b), (1, .int (nI pl)), (2, .int (nI M))] → W p l e (headSpec (Cond.code yL_draw cL_draw 4 (some .int) :: wAll) ({ frames := 0, cells := 0, slots := 0, locals := 0 })).room s m ([.ref b, .int (nI pl), .int (nI M)] : List Value).toArray below meth c H locs 0 0 Q (F0 m 22 ls [.int v]) := by
    intro v H locs ls hS hl
    refine lv_istore_n (lv' := [(3, .int v), (0, .ref b), (1, .int (nI pl)), (2, .int (nI M))]) hx hb dL_draw_22 rfl hl (by decide) rfl (fun ls hl => ?_)
    refine lv_iload_n hx hb dL_draw_23 rfl (lv_at hl 0 rfl) ?_
    refine lv_ldc (v := 2147483647) hx hb hown (hts _ wd_2_30) dL_draw_24 ?_
    refine lv_iand hx hb dL_draw_26 ?_
    obtain ⟨j, hj, ej⟩ := pk_andE v (m := 2147483647) 31 (by decide)
    rw [ej]
    refine lv_iload_n hx hb dL_draw_27 rfl (lv_at hl 3 rfl) ?_
    refine lv_irem hx hb dL_draw_28 (nI_ne M hM0 (by omega)) ?_
    refine hh_seti (y := nI (j % M)) (lwMod (a := j) (b := M) hj hM0 (by omega) rfl) ?_
    exact hh_retI (w := fun _ => []) () hQ ⟨j % M, Nat.mod_lt _ hM0, rfl⟩ hx hb hr hlocks (fun k q h => by simp at h) hK ⟨fun i j p q h => by simp at h, fun k q h => by simp at h⟩ hS dL_draw_29
  refine lv_iload_n hx hb dL_draw_0 rfl (lv_at hl 1 rfl) ?_
  refine lv_aload_n hx hb dL_draw_1 rfl (lv_at hl 0 rfl) ?_
  refine va_slen hx hb hGX.2.1 hGX.2.2 hbA0 hS dL_draw_2 ?_
  have hof : Int32.ofNat L = nI L := rfl
  rw [hof]
  refine lv_icmp_ge (tgt := 12) hx hb dL_draw_3 (by decide) (fun h3 => ?_) (fun h3 => ?_)
  · refine lv_ldc (v := 797696469) hx hb hown (hts _ wd_2_28) dL_draw_12 ?_
    refine lv_iload_n hx hb dL_draw_14 rfl (lv_at hl 1 rfl) ?_
    refine lv_bipush (v := 25) hx hb dL_draw_15 (by decide) ?_
    refine lv_iadd hx hb dL_draw_17 ?_
    refine lv_imul hx hb dL_draw_18 ?_
    refine lv_ldc (v := 1472506211) hx hb hown (hts _ wd_2_29) dL_draw_19 ?_
    refine lv_iadd hx hb dL_draw_21 ?_
    exact TAIL _ _ _ ls hS hl
  · have hpl : pl < L := by
      rcases Nat.lt_or_ge pl L with z | z
      · exact z
      · exact absurd ((nI_leI (a := L) (b := pl) (by omega) (by omega)).mpr z) h3
    refine lv_aload_n hx hb dL_draw_6 rfl (lv_at hl 0 rfl) ?_
    refine lv_iload_n hx hb dL_draw_7 rfl (lv_at hl 1 rfl) ?_
    refine va_sld hx hb hGX.2.1 hGX.2.2 hbA0 hS (vp_in_nI hpl (by omega)) dL_draw_8 ?_
    refine lv_goto (tgt := 22) hx hb dL_draw_9 (by decide) ?_
    exact TAIL _ _ _ ls hS hl
