theorem z01 {x : Int32} (h : narrow .boolean (.int x) = .int x) : x = 0 ∨ x = 1 := by
  have h1 : x &&& 1 = x := by injection h
  obtain ⟨j, hj, e⟩ := pk_andE x (m := 1) 1 (by decide)
  rw [h1] at e
  subst e
  rcases (show j = 0 ∨ j = 1 by omega) with rfl | rfl
  · exact Or.inl rfl
  · exact Or.inr rfl
theorem zfit {x : Int32} (h : narrow .boolean (.int x) = .int x) : fits .boolean (.int x) = true := by
  rcases z01 h with rfl | rfl <;> rfl
def f_X5_requireArgument_x (fi : Int32) : Nat := if fi = (0 : Int32) then 2 else 0
set_option maxHeartbeats 4000000 in
set_option maxRecDepth 100000 in
theorem c_X5_requireArgument (l : Launch) (dC : Nat → ClassId) (dI : Nat → Nat → Nat) (cI cJ cZ cO : ClassId) (fi : Int32) (sz : Nat) (hfl : l.stackTraces = false) : vx_Met l yX5_requireArgument (Cond.code yX5_requireArgument cX5_requireArgument 1 none :: wAll) ({ frames := 6, cells := 1, slots := 6, locals := 82 }) (va_Pc [.int fi] (gP (dC, dI) [] (tyG cI cJ cZ cO) sz (gT (va_A [] sz)))) (va_Qv (fun (_ : Unit) => (f_X5_requireArgument_x fi) = 0) (fun _ t => gB (dC, dI) (va_A [] sz) [] (tyG cI cJ cZ cO) t) (va_A [] sz)) (gE (dC, dI) (va_A [] sz) [] (tyG cI cJ cZ cO) (f_X5_requireArgument_x fi)) 1 6 (va_A [] sz) := by
  refine vx_ofW (cc := cX5_requireArgument) (maxL := 1) (ret := none) (by decide) rfl ?_
  intro p e s m args below meth c s₁ B hml htab hv
  obtain ⟨rfl, hsz, hP, hK, hD0, hG⟩ := hv
  have hx := B.exec
  have hb := B.bytes
  have hr := B.returns
  have hts := ht_of B.pre
  have hown : s.vm.findClass RX5 = some m.cls := findClass_of_methodNamed B.named
  have hlocks := B.notSynchronized
  subst hsz
  have hD := hD0.self (sz := s.heap.size)
  generalize hAe : va_A [] s.heap.size = A at hD hG ⊢
  have hA : ∀ q : Nat, s.heap.size ≤ q → A q := fun q h => by rw [← hAe]; exact Or.inr h
  have hS : va_S A s.heap s.heap [] := va_S.rf
  have hP : va_P (dC, dI) vwCl [] s.heap := hP
  have hl := lv_entry ([.int fi]) (n := 1) (Nat.le_of_ble_eq_true rfl)
  rw [lg_entry_eq]
  generalize (lg_sl ([.int fi]) ++ List.replicate (1 - (lg_sl ([.int fi])).length) Slot.unset).toArray = ls at hl ⊢
  have hl : lv_has ls 1 [(0, .int fi)] := hl
  refine hh_name (fun Q hQ => ?_)
  refine lv_iload_n hx hb dX5_requireArgument_0 rfl (lv_at hl 0 rfl) ?_
  refine lv_if_ne (tgt := 14) hx hb dX5_requireArgument_1 (by decide) (fun h1 => ?_) (fun h1 => ?_)
  · skip
    refine W.widen (k := 1) (n := 6) (Nat.le_of_ble_eq_true rfl) (Nat.le_of_ble_eq_true rfl) ?_
    exact hh_xretv hQ (if_neg h1) hx hb hr hlocks hP hK hD hS dX5_requireArgument_14
  · skip
    exact hh_throwS (own := RX5) (code := 2) hQ (if_pos h1) (by decide) hx hb hfl hown (by decide) (hts _ wd_2_106) (hts _ wd_1_12) hG.2.1.2.1 (at_of hts at_g2 at_b2 hG.2.1.2.2.2.2.2.1 hG.2.1) (by decide +kernel) hG.2.2 hP hK hD hS (hl.1.trans hml.symm) dX5_requireArgument_4 dX5_requireArgument_7 dX5_requireArgument_8 dX5_requireArgument_10 dX5_requireArgument_13 htab (Nat.le_of_ble_eq_true rfl) (Nat.le_of_ble_eq_true rfl) (Nat.le_of_ble_eq_true rfl) (Nat.le_of_ble_eq_true rfl) hlocks (Nat.le_of_ble_eq_true rfl) (Nat.le_of_ble_eq_true rfl)
def f_X5_requireState_x (fi : Int32) : Nat := if fi = (0 : Int32) then 3 else 0
set_option maxHeartbeats 4000000 in
set_option maxRecDepth 100000 in
theorem c_X5_requireState (l : Launch) (dC : Nat → ClassId) (dI : Nat → Nat → Nat) (cI cJ cZ cO : ClassId) (fi : Int32) (sz : Nat) (hfl : l.stackTraces = false) : vx_Met l yX5_requireState (Cond.code yX5_requireState cX5_requireState 1 none :: wAll) ({ frames := 6, cells := 1, slots := 6, locals := 82 }) (va_Pc [.int fi] (gP (dC, dI) [] (tyG cI cJ cZ cO) sz (gT (va_A [] sz)))) (va_Qv (fun (_ : Unit) => (f_X5_requireState_x fi) = 0) (fun _ t => gB (dC, dI) (va_A [] sz) [] (tyG cI cJ cZ cO) t) (va_A [] sz)) (gE (dC, dI) (va_A [] sz) [] (tyG cI cJ cZ cO) (f_X5_requireState_x fi)) 1 6 (va_A [] sz) := by
  refine vx_ofW (cc := cX5_requireState) (maxL := 1) (ret := none) (by decide) rfl ?_
  intro p e s m args below meth c s₁ B hml htab hv
  obtain ⟨rfl, hsz, hP, hK, hD0, hG⟩ := hv
  have hx := B.exec
  have hb := B.bytes
  have hr := B.returns
  have hts := ht_of B.pre
  have hown : s.vm.findClass RX5 = some m.cls := findClass_of_methodNamed B.named
  have hlocks := B.notSynchronized
  subst hsz
  have hD := hD0.self (sz := s.heap.size)
  generalize hAe : va_A [] s.heap.size = A at hD hG ⊢
  have hA : ∀ q : Nat, s.heap.size ≤ q → A q := fun q h => by rw [← hAe]; exact Or.inr h
  have hS : va_S A s.heap s.heap [] := va_S.rf
  have hP : va_P (dC, dI) vwCl [] s.heap := hP
  have hl := lv_entry ([.int fi]) (n := 1) (Nat.le_of_ble_eq_true rfl)
  rw [lg_entry_eq]
  generalize (lg_sl ([.int fi]) ++ List.replicate (1 - (lg_sl ([.int fi])).length) Slot.unset).toArray = ls at hl ⊢
  have hl : lv_has ls 1 [(0, .int fi)] := hl
  refine hh_name (fun Q hQ => ?_)
  refine lv_iload_n hx hb dX5_requireState_0 rfl (lv_at hl 0 rfl) ?_
  refine lv_if_ne (tgt := 14) hx hb dX5_requireState_1 (by decide) (fun h1 => ?_) (fun h1 => ?_)
  · skip
    refine W.widen (k := 1) (n := 6) (Nat.le_of_ble_eq_true rfl) (Nat.le_of_ble_eq_true rfl) ?_
    exact hh_xretv hQ (if_neg h1) hx hb hr hlocks hP hK hD hS dX5_requireState_14
  · skip
    exact hh_throwS (own := RX5) (code := 3) hQ (if_pos h1) (by decide) hx hb hfl hown (by decide) (hts _ wd_2_145) (hts _ wd_1_13) hG.2.1.2.2.1 (at_of hts at_g3 at_b3 hG.2.1.2.2.2.2.2.2.1 hG.2.1) (by decide +kernel) hG.2.2 hP hK hD hS (hl.1.trans hml.symm) dX5_requireState_4 dX5_requireState_7 dX5_requireState_8 dX5_requireState_10 dX5_requireState_13 htab (Nat.le_of_ble_eq_true rfl) (Nat.le_of_ble_eq_true rfl) (Nat.le_of_ble_eq_true rfl) (Nat.le_of_ble_eq_true rfl) hlocks (Nat.le_of_ble_eq_true rfl) (Nat.le_of_ble_eq_true rfl)
def f_X5_requireGainNumber_x (wh : Int32) : Nat := if wh < (0 : Int32) then 1 else (if wh ≤ (2 : Int32) then 0 else 1)
set_option maxHeartbeats 4000000 in
set_option maxRecDepth 100000 in
theorem c_X5_requireGainNumber (l : Launch) (dC : Nat → ClassId) (dI : Nat → Nat → Nat) (cI cJ cZ cO : ClassId) (wh : Int32) (sz : Nat) (hfl : l.stackTraces = false) : vx_Met l yX5_requireGainNumber (Cond.code yX5_requireGainNumber cX5_requireGainNumber 1 none :: wAll) ({ frames := 6, cells := 1, slots := 6, locals := 82 }) (va_Pc [.int wh] (gP (dC, dI) [] (tyG cI cJ cZ cO) sz (gT (va_A [] sz)))) (va_Qv (fun (_ : Unit) => (f_X5_requireGainNumber_x wh) = 0) (fun _ t => gB (dC, dI) (va_A [] sz) [] (tyG cI cJ cZ cO) t) (va_A [] sz)) (gE (dC, dI) (va_A [] sz) [] (tyG cI cJ cZ cO) (f_X5_requireGainNumber_x wh)) 1 6 (va_A [] sz) := by
  refine vx_ofW (cc := cX5_requireGainNumber) (maxL := 1) (ret := none) (by decide) rfl ?_
  intro p e s m args below meth c s₁ B hml htab hv
  obtain ⟨rfl, hsz, hP, hK, hD0, hG⟩ := hv
  have hx := B.exec
  have hb := B.bytes
  have hr := B.returns
  have hts := ht_of B.pre
  have hown : s.vm.findClass RX5 = some m.cls := findClass_of_methodNamed B.named
  have hlocks := B.notSynchronized
  subst hsz
  have hD := hD0.self (sz := s.heap.size)
  generalize hAe : va_A [] s.heap.size = A at hD hG ⊢
  have hA : ∀ q : Nat, s.heap.size ≤ q → A q := fun q h => by rw [← hAe]; exact Or.inr h
  have hS : va_S A s.heap s.heap [] := va_S.rf
  have hP : va_P (dC, dI) vwCl [] s.heap := hP
  have hl := lv_entry ([.int wh]) (n := 1) (Nat.le_of_ble_eq_true rfl)
  rw [lg_entry_eq]
  generalize (lg_sl ([.int wh]) ++ List.replicate (1 - (lg_sl ([.int wh])).length) Slot.unset).toArray = ls at hl ⊢
  have hl : lv_has ls 1 [(0, .int wh)] := hl
  refine hh_name (fun Q hQ => ?_)
  refine lv_iload_n hx hb dX5_requireGainNumber_0 rfl (lv_at hl 0 rfl) ?_
  refine lv_if_lt (tgt := 9) hx hb dX5_requireGainNumber_1 (by decide) (fun h1 => ?_) (fun h1 => ?_)
  · skip
    exact hh_throwS (own := RX5) (code := 1) hQ (if_pos h1) (by decide) hx hb hfl hown (by decide) (hts _ wd_2_32) (hts _ wd_1_11) hG.2.1.2.2.2.1 (at_of hts at_g1 at_b1 hG.2.1.2.2.2.2.1 hG.2.1) (by decide +kernel) hG.2.2 hP hK hD hS (hl.1.trans hml.symm) dX5_requireGainNumber_9 dX5_requireGainNumber_12 dX5_requireGainNumber_13 dX5_requireGainNumber_15 dX5_requireGainNumber_18 htab (Nat.le_of_ble_eq_true rfl) (Nat.le_of_ble_eq_true rfl) (Nat.le_of_ble_eq_true rfl) (Nat.le_of_ble_eq_true rfl) hlocks (Nat.le_of_ble_eq_true rfl) (Nat.le_of_ble_eq_true rfl)
  · skip
    refine lv_iload_n hx hb dX5_requireGainNumber_4 rfl (lv_at hl 0 rfl) ?_
    refine lv_iconst (v := 2) hx hb dX5_requireGainNumber_5 (by decide) ?_
    refine lv_icmp_le (tgt := 19) hx hb dX5_requireGainNumber_6 (by decide) (fun h2 => ?_) (fun h2 => ?_)
    · skip
      refine W.widen (k := 1) (n := 6) (Nat.le_of_ble_eq_true rfl) (Nat.le_of_ble_eq_true rfl) ?_
      exact hh_xretv hQ ((if_neg h1).trans (if_pos h2)) hx hb hr hlocks hP hK hD hS dX5_requireGainNumber_19
    · skip
      exact hh_throwS (own := RX5) (code := 1) hQ ((if_neg h1).trans (if_neg h2)) (by decide) hx hb hfl hown (by decide) (hts _ wd_2_32) (hts _ wd_1_11) hG.2.1.2.2.2.1 (at_of hts at_g1 at_b1 hG.2.1.2.2.2.2.1 hG.2.1) (by decide +kernel) hG.2.2 hP hK hD hS (hl.1.trans hml.symm) dX5_requireGainNumber_9 dX5_requireGainNumber_12 dX5_requireGainNumber_13 dX5_requireGainNumber_15 dX5_requireGainNumber_18 htab (Nat.le_of_ble_eq_true rfl) (Nat.le_of_ble_eq_true rfl) (Nat.le_of_ble_eq_true rfl) (Nat.le_of_ble_eq_true rfl) hlocks (Nat.le_of_ble_eq_true rfl) (Nat.le_of_ble_eq_true rfl)
def f_X5_requireWithin_j1_1 (v lo hi : Int32) : Int32 := if v < lo then (0 : Int32) else (if hi < v then (0 : Int32) else (1 : Int32))
theorem f_X5_requireWithin_j1_1_z (v lo hi : Int32) : narrow .boolean (.int (f_X5_requireWithin_j1_1 v lo hi)) = .int (f_X5_requireWithin_j1_1 v lo hi) := by
  unfold f_X5_requireWithin_j1_1
  repeat' split
  all_goals rfl
def f_X5_requireWithin_x (v lo hi : Int32) : Nat := if (f_X5_requireArgument_x (f_X5_requireWithin_j1_1 v lo hi)) = 0 then 0 else (f_X5_requireArgument_x (f_X5_requireWithin_j1_1 v lo hi))
set_option maxHeartbeats 4000000 in
set_option maxRecDepth 100000 in
theorem c_X5_requireWithin (l : Launch) (dC : Nat → ClassId) (dI : Nat → Nat → Nat) (cI cJ cZ cO : ClassId) (v lo hi : Int32) (sz : Nat) (hfl : l.stackTraces = false) : vx_Met l yX5_requireWithin (Cond.code yX5_requireWithin cX5_requireWithin 3 none :: wAll) ({ frames := 7, cells := 1, slots := 6, locals := 102 }) (va_Pc [.int v, .int lo, .int hi] (gP (dC, dI) [] (tyG cI cJ cZ cO) sz (gT (va_A [] sz)))) (va_Qv (fun (_ : Unit) => (f_X5_requireWithin_x v lo hi) = 0) (fun _ t => gB (dC, dI) (va_A [] sz) [] (tyG cI cJ cZ cO) t) (va_A [] sz)) (gE (dC, dI) (va_A [] sz) [] (tyG cI cJ cZ cO) (f_X5_requireWithin_x v lo hi)) 1 6 (va_A [] sz) := by
  refine vx_ofW (cc := cX5_requireWithin) (maxL := 3) (ret := none) (by decide) rfl ?_
  intro p e s m args below meth c s₁ B hml htab hv
  obtain ⟨rfl, hsz, hP, hK, hD0, hG⟩ := hv
  have hx := B.exec
  have hb := B.bytes
  have hr := B.returns
  have hts := ht_of B.pre
  have hown : s.vm.findClass RX5 = some m.cls := findClass_of_methodNamed B.named
  have hlocks := B.notSynchronized
  subst hsz
  have hD := hD0.self (sz := s.heap.size)
  generalize hAe : va_A [] s.heap.size = A at hD hG ⊢
  have hA : ∀ q : Nat, s.heap.size ≤ q → A q := fun q h => by rw [← hAe]; exact Or.inr h
  have hS : va_S A s.heap s.heap [] := va_S.rf
  have hP : va_P (dC, dI) vwCl [] s.heap := hP
  have hl := lv_entry ([.int v, .int lo, .int hi]) (n := 3) (Nat.le_of_ble_eq_true rfl)
  rw [lg_entry_eq]
  generalize (lg_sl ([.int v, .int lo, .int hi]) ++ List.replicate (3 - (lg_sl ([.int v, .int lo, .int hi])).length) Slot.unset).toArray = ls at hl ⊢
  have hl : lv_has ls 3 [(0, .int v), (1, .int lo), (2, .int hi)] := hl
  refine hh_name (fun Q hQ => ?_)
  refine lv_iload_n hx hb dX5_requireWithin_0 rfl (lv_at hl 0 rfl) ?_
  refine lv_iload_n hx hb dX5_requireWithin_1 rfl (lv_at hl 1 rfl) ?_
  have J1 : ∀ (H : Heap) (locs : List Loc) (ls : Array Slot), va_P (dC, dI) vwCl [] H → va_D A [] → va_S A s.heap H locs → lv_has ls 3 [(0, .int v), (1, .int lo), (2, .int hi)] → W p l e (headSpec (Cond.code yX5_requireWithin cX5_requireWithin 3 none :: wAll) ({ frames := 7, cells := 1, slots := 6, locals := 102 })).room s m ([.int v, .int lo, .int hi] : List Value).toArray below meth c H locs 0 0 Q (F0 m 15 ls [.int (f_X5_requireWithin_j1_1 v lo hi)]) := by
    intro H locs ls hP hD hS hl
    refine hh_xcallv (w2 := []) (vx_runS (As := [.int (f_X5_requireWithin_j1_1 v lo hi)]) (rest := []) ⟨hx, hb, hml, hown, hts⟩ (c_X5_requireArgument l dC dI cI cJ cZ cO (f_X5_requireWithin_j1_1 v lo hi) _ hfl) (va_cwS 1 hts (gd_S wd_2_103 wd_2_104 wd_1_1 wd_2_105) rfl rfl rfl (by decide +kernel) ⟨Nat.le_of_ble_eq_true rfl, Nat.le_of_ble_eq_true rfl⟩) (hh_pS (gT_c _) (gT_call hG hS (va_free hD hS hA [] rfl)) hK hP hD [] rfl rfl) rfl rfl hl.1 rfl (lv_room (Nat.le_of_ble_eq_true rfl)) dX5_requireWithin_15 ⟨Nat.le_of_ble_eq_true rfl, Nat.le_of_ble_eq_true rfl⟩) hP hD hS hA [] [] [] rfl rfl rfl (by decide) rfl rfl rfl (fun E ce q9 H locs h3 hE hP hD hS hc1 hc2 hc3 => ?_) (fun H locs h3 hP hD hS => ?_)
    · skip
      exact hh_prop hQ (if_neg h3) htab hlocks h3 hE hP hK hD hS hc1 hc2 hc3 (Nat.le_of_ble_eq_true rfl) (Nat.le_of_ble_eq_true rfl)
    · skip
      exact hh_xretv hQ (if_pos h3) hx hb hr hlocks hP hK hD hS dX5_requireWithin_18
  refine lv_icmp_lt (tgt := 14) hx hb dX5_requireWithin_2 (by decide) (fun h1 => ?_) (fun h1 => ?_)
  · skip
    refine lv_iconst (v := 0) hx hb dX5_requireWithin_14 (by decide) ?_
    have e4 : (f_X5_requireWithin_j1_1 v lo hi) = (0 : Int32) := if_pos h1
    refine hh_seti (y := (f_X5_requireWithin_j1_1 v lo hi)) (if_pos h1) ?_
    exact J1 _ _ _ (hP) (hD) hS (lv_sub hl [0, 1, 2] rfl)
  · skip
    refine lv_iload_n hx hb dX5_requireWithin_5 rfl (lv_at hl 0 rfl) ?_
    refine lv_iload_n hx hb dX5_requireWithin_6 rfl (lv_at hl 2 rfl) ?_
    refine lv_icmp_gt (tgt := 14) hx hb dX5_requireWithin_7 (by decide) (fun h2 => ?_) (fun h2 => ?_)
    · skip
      refine lv_iconst (v := 0) hx hb dX5_requireWithin_14 (by decide) ?_
      have e5 : (f_X5_requireWithin_j1_1 v lo hi) = (0 : Int32) := (if_neg h1).trans (if_pos h2)
      refine hh_seti (y := (f_X5_requireWithin_j1_1 v lo hi)) ((if_neg h1).trans (if_pos h2)) ?_
      exact J1 _ _ _ (hP) (hD) hS (lv_sub hl [0, 1, 2] rfl)
    · skip
      refine lv_iconst (v := 1) hx hb dX5_requireWithin_10 (by decide) ?_
      refine lv_goto (tgt := 15) hx hb dX5_requireWithin_11 (by decide) ?_
      have e6 : (f_X5_requireWithin_j1_1 v lo hi) = (1 : Int32) := (if_neg h1).trans (if_neg h2)
      refine hh_seti (y := (f_X5_requireWithin_j1_1 v lo hi)) ((if_neg h1).trans (if_neg h2)) ?_
      exact J1 _ _ _ (hP) (hD) hS (lv_sub hl [0, 1, 2] rfl)
def f_X5_requireGains_x (np ni nd : Int32) : Nat := if (f_X5_requireWithin_x np (-20000 : Int32) (20000 : Int32)) = 0 then (if (f_X5_requireWithin_x ni (-5000 : Int32) (5000 : Int32)) = 0 then (if (f_X5_requireWithin_x nd (-50000 : Int32) (50000 : Int32)) = 0 then 0 else (f_X5_requireWithin_x nd (-50000 : Int32) (50000 : Int32))) else (f_X5_requireWithin_x ni (-5000 : Int32) (5000 : Int32))) else (f_X5_requireWithin_x np (-20000 : Int32) (20000 : Int32))
set_option maxHeartbeats 4000000 in
set_option maxRecDepth 100000 in
theorem c_X5_requireGains (l : Launch) (dC : Nat → ClassId) (dI : Nat → Nat → Nat) (cI cJ cZ cO : ClassId) (np ni nd : Int32) (sz : Nat) (hfl : l.stackTraces = false) : vx_Met l yX5_requireGains (Cond.code yX5_requireGains cX5_requireGains 3 none :: wAll) ({ frames := 8, cells := 3, slots := 18, locals := 124 }) (va_Pc [.int np, .int ni, .int nd] (gP (dC, dI) [] (tyG cI cJ cZ cO) sz (gT (va_A [] sz)))) (va_Qv (fun (_ : Unit) => (f_X5_requireGains_x np ni nd) = 0) (fun _ t => gB (dC, dI) (va_A [] sz) [] (tyG cI cJ cZ cO) t) (va_A [] sz)) (gE (dC, dI) (va_A [] sz) [] (tyG cI cJ cZ cO) (f_X5_requireGains_x np ni nd)) 3 18 (va_A [] sz) := by
  refine vx_ofW (cc := cX5_requireGains) (maxL := 3) (ret := none) (by decide) rfl ?_
  intro p e s m args below meth c s₁ B hml htab hv
  obtain ⟨rfl, hsz, hP, hK, hD0, hG⟩ := hv
  have hx := B.exec
  have hb := B.bytes
  have hr := B.returns
  have hts := ht_of B.pre
  have hown : s.vm.findClass RX5 = some m.cls := findClass_of_methodNamed B.named
  have hlocks := B.notSynchronized
  subst hsz
  have hD := hD0.self (sz := s.heap.size)
  generalize hAe : va_A [] s.heap.size = A at hD hG ⊢
  have hA : ∀ q : Nat, s.heap.size ≤ q → A q := fun q h => by rw [← hAe]; exact Or.inr h
  have hS : va_S A s.heap s.heap [] := va_S.rf
  have hP : va_P (dC, dI) vwCl [] s.heap := hP
  have hl := lv_entry ([.int np, .int ni, .int nd]) (n := 3) (Nat.le_of_ble_eq_true rfl)
  rw [lg_entry_eq]
  generalize (lg_sl ([.int np, .int ni, .int nd]) ++ List.replicate (3 - (lg_sl ([.int np, .int ni, .int nd])).length) Slot.unset).toArray = ls at hl ⊢
  have hl : lv_has ls 3 [(0, .int np), (1, .int ni), (2, .int nd)] := hl
  refine hh_name (fun Q hQ => ?_)
  refine lv_iload_n hx hb dX5_requireGains_0 rfl (lv_at hl 0 rfl) ?_
  refine lv_sipush (v := -20000) hx hb dX5_requireGains_1 (by decide) ?_
  refine lv_sipush (v := 20000) hx hb dX5_requireGains_4 (by decide) ?_
  refine hh_xcallv (w2 := []) (vx_runS (As := [.int np, .int (-20000 : Int32), .int (20000 : Int32)]) (rest := []) ⟨hx, hb, hml, hown, hts⟩ (c_X5_requireWithin l dC dI cI cJ cZ cO np (-20000 : Int32) (20000 : Int32) _ hfl) (va_cwS 3 hts (gd_S wd_2_100 wd_2_101 wd_1_1 wd_2_102) rfl rfl rfl (by decide +kernel) ⟨Nat.le_of_ble_eq_true rfl, Nat.le_of_ble_eq_true rfl⟩) (hh_pS (gT_c _) (gT_call hG hS (va_free hD hS hA [] rfl)) hK hP hD [] rfl rfl) rfl rfl hl.1 rfl (lv_room (Nat.le_of_ble_eq_true rfl)) dX5_requireGains_7 ⟨Nat.le_of_ble_eq_true rfl, Nat.le_of_ble_eq_true rfl⟩) hP hD hS hA [] [] [] rfl rfl rfl (by decide) rfl rfl rfl (fun E ce q9 H locs h1 hE hP hD hS hc1 hc2 hc3 => ?_) (fun H locs h1 hP hD hS => ?_)
  · skip
    exact hh_prop hQ (if_neg h1) htab hlocks h1 hE hP hK hD hS hc1 hc2 hc3 (Nat.le_of_ble_eq_true rfl) (Nat.le_of_ble_eq_true rfl)
  · skip
    refine lv_iload_n hx hb dX5_requireGains_10 rfl (lv_at hl 1 rfl) ?_
    refine lv_sipush (v := -5000) hx hb dX5_requireGains_11 (by decide) ?_
    refine lv_sipush (v := 5000) hx hb dX5_requireGains_14 (by decide) ?_
    refine hh_xcallv (w2 := []) (vx_runS (As := [.int ni, .int (-5000 : Int32), .int (5000 : Int32)]) (rest := []) ⟨hx, hb, hml, hown, hts⟩ (c_X5_requireWithin l dC dI cI cJ cZ cO ni (-5000 : Int32) (5000 : Int32) _ hfl) (va_cwS 3 hts (gd_S wd_2_100 wd_2_101 wd_1_1 wd_2_102) rfl rfl rfl (by decide +kernel) ⟨Nat.le_of_ble_eq_true rfl, Nat.le_of_ble_eq_true rfl⟩) (hh_pS (gT_c _) (gT_call hG hS (va_free hD hS hA [] rfl)) hK hP hD [] rfl rfl) rfl rfl hl.1 rfl (lv_room (Nat.le_of_ble_eq_true rfl)) dX5_requireGains_17 ⟨Nat.le_of_ble_eq_true rfl, Nat.le_of_ble_eq_true rfl⟩) hP hD hS hA [] [] [] rfl rfl rfl (by decide) rfl rfl rfl (fun E ce q9 H locs h2 hE hP hD hS hc1 hc2 hc3 => ?_) (fun H locs h2 hP hD hS => ?_)
    · skip
      exact hh_prop hQ ((if_pos h1).trans (if_neg h2)) htab hlocks h2 hE hP hK hD hS hc1 hc2 hc3 (Nat.le_of_ble_eq_true rfl) (Nat.le_of_ble_eq_true rfl)
    · skip
      refine lv_iload_n hx hb dX5_requireGains_20 rfl (lv_at hl 2 rfl) ?_
      refine lv_ldc (v := -50000) hx hb hown (hts _ wd_2_140) dX5_requireGains_21 ?_
      refine lv_ldc (v := 50000) hx hb hown (hts _ wd_2_141) dX5_requireGains_23 ?_
      refine hh_xcallv (w2 := []) (vx_runS (As := [.int nd, .int (-50000 : Int32), .int (50000 : Int32)]) (rest := []) ⟨hx, hb, hml, hown, hts⟩ (c_X5_requireWithin l dC dI cI cJ cZ cO nd (-50000 : Int32) (50000 : Int32) _ hfl) (va_cwS 3 hts (gd_S wd_2_100 wd_2_101 wd_1_1 wd_2_102) rfl rfl rfl (by decide +kernel) ⟨Nat.le_of_ble_eq_true rfl, Nat.le_of_ble_eq_true rfl⟩) (hh_pS (gT_c _) (gT_call hG hS (va_free hD hS hA [] rfl)) hK hP hD [] rfl rfl) rfl rfl hl.1 rfl (lv_room (Nat.le_of_ble_eq_true rfl)) dX5_requireGains_25 ⟨Nat.le_of_ble_eq_true rfl, Nat.le_of_ble_eq_true rfl⟩) hP hD hS hA [] [] [] rfl rfl rfl (by decide) rfl rfl rfl (fun E ce q9 H locs h3 hE hP hD hS hc1 hc2 hc3 => ?_) (fun H locs h3 hP hD hS => ?_)
      · skip
        exact hh_prop hQ ((if_pos h1).trans ((if_pos h2).trans (if_neg h3))) htab hlocks h3 hE hP hK hD hS hc1 hc2 hc3 (Nat.le_of_ble_eq_true rfl) (Nat.le_of_ble_eq_true rfl)
      · skip
        exact hh_xretv hQ ((if_pos h1).trans ((if_pos h2).trans (if_pos h3))) hx hb hr hlocks hP hK hD hS dX5_requireGains_28
set_option maxHeartbeats 4000000 in
set_option maxRecDepth 100000 in
theorem c_X5_loopAt (l : Launch) (dC : Nat → ClassId) (dI : Nat → Nat → Nat) (cI cJ cZ cO : ClassId) (adB adA : Nat) (bs : Int32) (lf : Nat → Option Nat) (lp : Int32) (adL : Nat) (sz : Nat) (hl0 : ¬ lp < (0 : Int32)) (hl3 : lp < (3 : Int32)) (hlf : lf lp.toNatClampNeg = some adL) : Met l yX5_loopAt (Cond.code yX5_loopAt cX5_loopAt 2 (some (.object "ControlBench$Loop")) :: wAll) ({ frames := 0, cells := 0, slots := 0, locals := 0 }) (va_Pc [.ref adB, .int lp] (gP (dC, dI) [zX5 adB adA bs, zAL cO adA 3 lf] (tyG cI cJ cZ cO) sz gN)) (va_Qq (fun r (_ : Unit) => r = some adL) (fun _ t => gB (dC, dI) (va_A [zX5 adB adA bs, zAL cO adA 3 lf] sz) [zX5 adB adA bs, zAL cO adA 3 lf] (tyG cI cJ cZ cO) t) (va_A [zX5 adB adA bs, zAL cO adA 3 lf] sz)) 0 0 (va_A [zX5 adB adA bs, zAL cO adA 3 lf] sz) := by
  refine Met.ofW (cc := cX5_loopAt) (maxL := 2) (ret := (some (.object "ControlBench$Loop"))) (by decide) rfl ?_
  intro p e s m args below meth c s₁ B hml hv
  obtain ⟨rfl, hsz, hP, hK, hD0, hG⟩ := hv
  have hx := B.exec
  have hb := B.bytes
  have hr := B.returns
  have hts := ht_of B.pre
  have hown : s.vm.findClass RX5 = some m.cls := findClass_of_methodNamed B.named
  have hlocks := B.notSynchronized
  subst hsz
  have hD := hD0.self (sz := s.heap.size)
  generalize hAe : va_A [zX5 adB adA bs, zAL cO adA 3 lf] s.heap.size = A at hD ⊢
  have hA : ∀ q : Nat, s.heap.size ≤ q → A q := fun q h => by rw [← hAe]; exact Or.inr h
  have hS : va_S A s.heap s.heap [] := va_S.rf
  have hP : va_P (dC, dI) vwCl [zX5 adB adA bs, zAL cO adA 3 lf] s.heap := hP
  have hl := lv_entry ([.ref adB, .int lp]) (n := 2) (Nat.le_of_ble_eq_true rfl)
  rw [lg_entry_eq]
  generalize (lg_sl ([.ref adB, .int lp]) ++ List.replicate (2 - (lg_sl ([.ref adB, .int lp])).length) Slot.unset).toArray = ls at hl ⊢
  have hl : lv_has ls 2 [(0, .ref adB), (1, .int lp)] := hl
  refine hh_name (fun Q hQ => ?_)
  refine lv_iload_n hx hb dX5_loopAt_0 rfl (lv_at hl 1 rfl) ?_
  refine lv_if_lt (tgt := 13) hx hb dX5_loopAt_1 (by decide) (fun h9 => absurd h9 (hl0)) (fun _ => ?_)
  refine lv_iload_n hx hb dX5_loopAt_4 rfl (lv_at hl 1 rfl) ?_
  refine lv_aload_n hx hb dX5_loopAt_5 rfl (lv_at hl 0 rfl) ?_
  refine va_get (D := (dC, dI)) (ci := 5) (v := .ref adA) (C := RX5) (T := TX5) (N := 2) hx hb hts inW_X5 hown hK hP 0 rfl rfl 0 (by decide) (hts _ wd_2_12) (fun _ h9 => h9) rfl dX5_loopAt_6 ?_
  refine va_alen hx hb hK hP 1 3 rfl rfl (v := 3) rfl dX5_loopAt_9 ?_
  refine lv_icmp_lt (tgt := 23) hx hb dX5_loopAt_10 (by decide) (fun _ => ?_) (fun h9 => absurd (hl3) h9)
  refine lv_aload_n hx hb dX5_loopAt_23 rfl (lv_at hl 0 rfl) ?_
  refine va_get (D := (dC, dI)) (ci := 5) (v := .ref adA) (C := RX5) (T := TX5) (N := 2) hx hb hts inW_X5 hown hK hP 0 rfl rfl 0 (by decide) (hts _ wd_2_12) (fun _ h9 => h9) rfl dX5_loopAt_24 ?_
  refine lv_iload_n hx hb dX5_loopAt_27 rfl (lv_at hl 1 rfl) ?_
  refine va_aldq hx hb hK hP 1 3 rfl rfl (i := lp) (ix_3 hl0 hl3) dX5_loopAt_28 ?_
  refine hh_setv (y := .ref adL) (show va_rf _ = _ from by rw [hlf]; rfl) ?_
  exact hh_retq hQ (rfl) hx hb hr (Or.inl ⟨_, rfl⟩) hlocks hP hK hD hS dX5_loopAt_29
set_option maxHeartbeats 4000000 in
set_option maxRecDepth 100000 in
theorem c_X5_loopAt_o (l : Launch) (dC : Nat → ClassId) (dI : Nat → Nat → Nat) (cI cJ cZ cO : ClassId) (adB adA : Nat) (bs : Int32) (lf : Nat → Option Nat) (lp : Int32) (sz : Nat) (hfl : l.stackTraces = false) (hlo : ¬ lp < (0 : Int32) → ¬ lp < (3 : Int32)) : vx_Met l yX5_loopAt (Cond.code yX5_loopAt cX5_loopAt 2 (some (.object "ControlBench$Loop")) :: wAll) ({ frames := 6, cells := 1, slots := 6, locals := 82 }) (va_Pc [.ref adB, .int lp] (gP (dC, dI) [zX5 adB adA bs, zAL cO adA 3 lf] (tyG cI cJ cZ cO) sz (gT (va_A [zX5 adB adA bs, zAL cO adA 3 lf] sz)))) (va_Qq (fun r (_ : Unit) => 1 = 0 ∧ r = none) (fun _ t => gB (dC, dI) (va_A [zX5 adB adA bs, zAL cO adA 3 lf] sz) [zX5 adB adA bs, zAL cO adA 3 lf] (tyG cI cJ cZ cO) t) (va_A [zX5 adB adA bs, zAL cO adA 3 lf] sz)) (gE (dC, dI) (va_A [zX5 adB adA bs, zAL cO adA 3 lf] sz) [zX5 adB adA bs, zAL cO adA 3 lf] (tyG cI cJ cZ cO) 1) 1 6 (va_A [zX5 adB adA bs, zAL cO adA 3 lf] sz) := by
  refine vx_ofW (cc := cX5_loopAt) (maxL := 2) (ret := (some (.object "ControlBench$Loop"))) (by decide) rfl ?_
  intro p e s m args below meth c s₁ B hml htab hv
  obtain ⟨rfl, hsz, hP, hK, hD0, hG⟩ := hv
  have hx := B.exec
  have hb := B.bytes
  have hr := B.returns
  have hts := ht_of B.pre
  have hown : s.vm.findClass RX5 = some m.cls := findClass_of_methodNamed B.named
  have hlocks := B.notSynchronized
  subst hsz
  have hD := hD0.self (sz := s.heap.size)
  generalize hAe : va_A [zX5 adB adA bs, zAL cO adA 3 lf] s.heap.size = A at hD hG ⊢
  have hA : ∀ q : Nat, s.heap.size ≤ q → A q := fun q h => by rw [← hAe]; exact Or.inr h
  have hS : va_S A s.heap s.heap [] := va_S.rf
  have hP : va_P (dC, dI) vwCl [zX5 adB adA bs, zAL cO adA 3 lf] s.heap := hP
  have hl := lv_entry ([.ref adB, .int lp]) (n := 2) (Nat.le_of_ble_eq_true rfl)
  rw [lg_entry_eq]
  generalize (lg_sl ([.ref adB, .int lp]) ++ List.replicate (2 - (lg_sl ([.ref adB, .int lp])).length) Slot.unset).toArray = ls at hl ⊢
  have hl : lv_has ls 2 [(0, .ref adB), (1, .int lp)] := hl
  refine hh_name (fun Q hQ => ?_)
  refine lv_iload_n hx hb dX5_loopAt_0 rfl (lv_at hl 1 rfl) ?_
  refine lv_if_lt (tgt := 13) hx hb dX5_loopAt_1 (by decide) (fun h1 => ?_) (fun h1 => ?_)
  · skip
    exact hh_throwS (own := RX5) (code := 1) hQ (rfl) (by decide) hx hb hfl hown (by decide) (hts _ wd_2_32) (hts _ wd_1_11) hG.2.1.1 (at_of hts at_g1 at_b1 hG.2.1.2.2.2.2.1 hG.2.1) (by decide +kernel) hG.2.2 hP hK hD hS (hl.1.trans hml.symm) dX5_loopAt_13 dX5_loopAt_16 dX5_loopAt_17 dX5_loopAt_19 dX5_loopAt_22 htab (Nat.le_of_ble_eq_true rfl) (Nat.le_of_ble_eq_true rfl) (Nat.le_of_ble_eq_true rfl) (Nat.le_of_ble_eq_true rfl) hlocks (Nat.le_of_ble_eq_true rfl) (Nat.le_of_ble_eq_true rfl)
  · skip
    refine lv_iload_n hx hb dX5_loopAt_4 rfl (lv_at hl 1 rfl) ?_
    refine lv_aload_n hx hb dX5_loopAt_5 rfl (lv_at hl 0 rfl) ?_
    refine va_get (D := (dC, dI)) (ci := 5) (v := .ref adA) (C := RX5) (T := TX5) (N := 2) hx hb hts inW_X5 hown hK hP 0 rfl rfl 0 (by decide) (hts _ wd_2_12) (fun _ h9 => h9) rfl dX5_loopAt_6 ?_
    refine va_alen hx hb hK hP 1 3 rfl rfl (v := 3) rfl dX5_loopAt_9 ?_
    refine lv_icmp_lt (tgt := 23) hx hb dX5_loopAt_10 (by decide) (fun h9 => absurd h9 (hlo h1)) (fun _ => ?_)
    exact hh_throwS (own := RX5) (code := 1) hQ (rfl) (by decide) hx hb hfl hown (by decide) (hts _ wd_2_32) (hts _ wd_1_11) hG.2.1.1 (at_of hts at_g1 at_b1 hG.2.1.2.2.2.2.1 hG.2.1) (by decide +kernel) hG.2.2 hP hK hD hS (hl.1.trans hml.symm) dX5_loopAt_13 dX5_loopAt_16 dX5_loopAt_17 dX5_loopAt_19 dX5_loopAt_22 htab (Nat.le_of_ble_eq_true rfl) (Nat.le_of_ble_eq_true rfl) (Nat.le_of_ble_eq_true rfl) (Nat.le_of_ble_eq_true rfl) hlocks (Nat.le_of_ble_eq_true rfl) (Nat.le_of_ble_eq_true rfl)
