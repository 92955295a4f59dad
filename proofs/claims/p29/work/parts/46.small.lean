def f_L_floor_j1_1 (flv fby : Int64) : Int64 := if (0 : Int64) ≤ (flv - flv / fby * fby) then (flv - flv / fby * fby) else ((flv - flv / fby * fby) + fby)
def f_L_floor_r (flv fby : Int64) : Int64 := ((flv - (f_L_floor_j1_1 flv fby)) / fby)
set_option maxHeartbeats 4000000 in
set_option maxRecDepth 100000 in
theorem c_L_floor (l : Launch) (dC : Nat → ClassId) (dI : Nat → Nat → Nat) (cI cJ cZ cO : ClassId) (flv fby : Int64) (sz : Nat) (hby : ¬ fby = 0) : Met l yL_floor (Cond.code yL_floor cL_floor 6 (some .long) :: wAll) ({ frames := 0, cells := 0, slots := 0, locals := 0 }) (va_Pc [.long flv, .long fby] (gP (dC, dI) [] (tyG cI cJ cZ cO) sz gN)) (va_Ql (fun r (_ : Unit) => r = (f_L_floor_r flv fby)) (fun _ t => gB (dC, dI) (va_A [] sz) [] (tyG cI cJ cZ cO) t) (va_A [] sz)) 0 0 (va_A [] sz) := by
  refine Met.ofW (cc := cL_floor) (maxL := 6) (ret := (some .long)) (by decide) rfl ?_
  intro p e s m args below meth c s₁ B hml hv
  obtain ⟨rfl, hsz, hP, hK, hD0, hG⟩ := hv
  have hx := B.exec
  have hb := B.bytes
  have hr := B.returns
  have hts := ht_of B.pre
  have hown : s.vm.findClass RL = some m.cls := findClass_of_methodNamed B.named
  have hlocks := B.notSynchronized
  subst hsz
  have hD := hD0.self (sz := s.heap.size)
  generalize hAe : va_A [] s.heap.size = A at hD ⊢
  have hA : ∀ q : Nat, s.heap.size ≤ q → A q := fun q h => by rw [← hAe]; exact Or.inr h
  have hS : va_S A s.heap s.heap [] := va_S.rf
  have hP : va_P (dC, dI) vwCl [] s.heap := hP
  have hl := lv_entry ([.long flv, .long fby]) (n := 6) (Nat.le_of_ble_eq_true rfl)
  rw [lg_entry_eq]
  generalize (lg_sl ([.long flv, .long fby]) ++ List.replicate (6 - (lg_sl ([.long flv, .long fby])).length) Slot.unset).toArray = ls at hl ⊢
  have hl : lv_has ls 6 [(0, .long flv), (2, .long fby)] := hl
  refine hh_name (fun Q hQ => ?_)
  refine lv_lload_n hx hb dL_floor_0 rfl (lv_at hl 0 rfl) ?_
  refine lv_lload_n hx hb dL_floor_1 rfl (lv_at hl 1 rfl) ?_
  refine lv_lrem hx hb dL_floor_2 hby ?_
  refine lv_lstore (lv' := [(4, .long (flv - flv / fby * fby)), (0, .long flv), (2, .long fby)]) hx hb dL_floor_3 hl (by decide) rfl (fun ls hl => ?_)
  refine lv_lload_n hx hb dL_floor_5 rfl (lv_at hl 1 rfl) ?_
  refine lv_lload hx hb dL_floor_6 (lv_at hl 0 rfl) ?_
  refine lv_lconst (v := 0) hx hb dL_floor_8 (by decide) ?_
  have J1 : ∀ (H : Heap) (locs : List Loc) (ls : Array Slot), va_P (dC, dI) vwCl [] H → va_D A [] → va_S A s.heap H locs → lv_has ls 6 [(4, .long (flv - flv / fby * fby)), (0, .long flv), (2, .long fby)] → W p l e (headSpec (Cond.code yL_floor cL_floor 6 (some .long) :: wAll) ({ frames := 0, cells := 0, slots := 0, locals := 0 })).room s m ([.long flv, .long fby] : List Value).toArray below meth c H locs 0 0 Q (F0 m 22 ls [.long (f_L_floor_j1_1 flv fby), .long flv]) := by
    intro H locs ls hP hD hS hl
    refine lv_lsub hx hb dL_floor_22 ?_
    refine lv_lload_n hx hb dL_floor_23 rfl (lv_at hl 2 rfl) ?_
    refine lv_ldiv hx hb dL_floor_24 hby ?_
    exact hh_retl hQ (rfl) hx hb hr hlocks hP hK hD hS dL_floor_25
  refine hh_cge (tgt := 20) hx hb dL_floor_9 dL_floor_10 (by decide) (fun h1 => ?_) (fun h1 => ?_)
  · skip
    refine lv_lload hx hb dL_floor_20 (lv_at hl 0 rfl) ?_
    have e2 : (f_L_floor_j1_1 flv fby) = (flv - flv / fby * fby) := if_pos h1
    refine hh_setl (y := (f_L_floor_j1_1 flv fby)) (if_pos h1) ?_
    exact J1 _ _ _ (hP) (hD) hS (lv_sub hl [0, 1, 2] rfl)
  · skip
    refine lv_lload hx hb dL_floor_13 (lv_at hl 0 rfl) ?_
    refine lv_lload_n hx hb dL_floor_15 rfl (lv_at hl 2 rfl) ?_
    refine lv_ladd hx hb dL_floor_16 ?_
    refine lv_goto (tgt := 22) hx hb dL_floor_17 (by decide) ?_
    have e3 : (f_L_floor_j1_1 flv fby) = ((flv - flv / fby * fby) + fby) := if_neg h1
    refine hh_setl (y := (f_L_floor_j1_1 flv fby)) (if_neg h1) ?_
    exact J1 _ _ _ (hP) (hD) hS (lv_sub hl [0, 1, 2] rfl)
def f_L_within_j1_1 (v lo hi : Int64) : Int64 := if lo ≤ v then (if v ≤ hi then v else hi) else lo
set_option maxHeartbeats 4000000 in
set_option maxRecDepth 100000 in
theorem c_L_within (l : Launch) (dC : Nat → ClassId) (dI : Nat → Nat → Nat) (cI cJ cZ cO : ClassId) (v lo hi : Int64) (sz : Nat)  : Met l yL_within (Cond.code yL_within cL_within 6 (some .long) :: wAll) ({ frames := 0, cells := 0, slots := 0, locals := 0 }) (va_Pc [.long v, .long lo, .long hi] (gP (dC, dI) [] (tyG cI cJ cZ cO) sz gN)) (va_Ql (fun r (_ : Unit) => r = (f_L_within_j1_1 v lo hi)) (fun _ t => gB (dC, dI) (va_A [] sz) [] (tyG cI cJ cZ cO) t) (va_A [] sz)) 0 0 (va_A [] sz) := by
  refine Met.ofW (cc := cL_within) (maxL := 6) (ret := (some .long)) (by decide) rfl ?_
  intro p e s m args below meth c s₁ B hml hv
  obtain ⟨rfl, hsz, hP, hK, hD0, hG⟩ := hv
  have hx := B.exec
  have hb := B.bytes
  have hr := B.returns
  have hts := ht_of B.pre
  have hown : s.vm.findClass RL = some m.cls := findClass_of_methodNamed B.named
  have hlocks := B.notSynchronized
  subst hsz
  have hD := hD0.self (sz := s.heap.size)
  generalize hAe : va_A [] s.heap.size = A at hD ⊢
  have hA : ∀ q : Nat, s.heap.size ≤ q → A q := fun q h => by rw [← hAe]; exact Or.inr h
  have hS : va_S A s.heap s.heap [] := va_S.rf
  have hP : va_P (dC, dI) vwCl [] s.heap := hP
  have hl := lv_entry ([.long v, .long lo, .long hi]) (n := 6) (Nat.le_of_ble_eq_true rfl)
  rw [lg_entry_eq]
  generalize (lg_sl ([.long v, .long lo, .long hi]) ++ List.replicate (6 - (lg_sl ([.long v, .long lo, .long hi])).length) Slot.unset).toArray = ls at hl ⊢
  have hl : lv_has ls 6 [(0, .long v), (2, .long lo), (4, .long hi)] := hl
  refine hh_name (fun Q hQ => ?_)
  refine lv_lload_n hx hb dL_within_0 rfl (lv_at hl 0 rfl) ?_
  refine lv_lload_n hx hb dL_within_1 rfl (lv_at hl 1 rfl) ?_
  have J1 : ∀ (H : Heap) (locs : List Loc) (ls : Array Slot), va_P (dC, dI) vwCl [] H → va_D A [] → va_S A s.heap H locs → lv_has ls 6 [(0, .long v), (2, .long lo), (4, .long hi)] → W p l e (headSpec (Cond.code yL_within cL_within 6 (some .long) :: wAll) ({ frames := 0, cells := 0, slots := 0, locals := 0 })).room s m ([.long v, .long lo, .long hi] : List Value).toArray below meth c H locs 0 0 Q (F0 m 23 ls [.long (f_L_within_j1_1 v lo hi)]) := by
    intro H locs ls hP hD hS hl
    exact hh_retl hQ (rfl) hx hb hr hlocks hP hK hD hS dL_within_23
  refine hh_cge (tgt := 10) hx hb dL_within_2 dL_within_3 (by decide) (fun h1 => ?_) (fun h1 => ?_)
  · skip
    refine lv_lload_n hx hb dL_within_10 rfl (lv_at hl 0 rfl) ?_
    refine lv_lload hx hb dL_within_11 (lv_at hl 2 rfl) ?_
    refine hh_cle (tgt := 22) hx hb dL_within_13 dL_within_14 (by decide) (fun h2 => ?_) (fun h2 => ?_)
    · skip
      refine lv_lload_n hx hb dL_within_22 rfl (lv_at hl 0 rfl) ?_
      have e3 : (f_L_within_j1_1 v lo hi) = v := (if_pos h1).trans (if_pos h2)
      refine hh_setl (y := (f_L_within_j1_1 v lo hi)) ((if_pos h1).trans (if_pos h2)) ?_
      exact J1 _ _ _ (hP) (hD) hS (lv_sub hl [0, 1, 2] rfl)
    · skip
      refine lv_lload hx hb dL_within_17 (lv_at hl 2 rfl) ?_
      refine lv_goto (tgt := 23) hx hb dL_within_19 (by decide) ?_
      have e4 : (f_L_within_j1_1 v lo hi) = hi := (if_pos h1).trans (if_neg h2)
      refine hh_setl (y := (f_L_within_j1_1 v lo hi)) ((if_pos h1).trans (if_neg h2)) ?_
      exact J1 _ _ _ (hP) (hD) hS (lv_sub hl [0, 1, 2] rfl)
  · skip
    refine lv_lload_n hx hb dL_within_6 rfl (lv_at hl 1 rfl) ?_
    refine lv_goto (tgt := 23) hx hb dL_within_7 (by decide) ?_
    have e5 : (f_L_within_j1_1 v lo hi) = lo := if_neg h1
    refine hh_setl (y := (f_L_within_j1_1 v lo hi)) (if_neg h1) ?_
    exact J1 _ _ _ (hP) (hD) hS (lv_sub hl [0, 1, 2] rfl)
