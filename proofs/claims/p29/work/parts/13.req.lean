theorem z01 {x : Int32} (h : narrow .boolean (.int x) = .int x) : x = 0 ∨ x = 1 := by
  have h1 : x &&& 1 = x := by injection h
  obtain ⟨j, hj, e⟩ := pk_andE x (m := 1) 1 (by decide)
  rw [h1] at e
  subst e
  rcases (show j = 0 ∨ j = 1 by omega) with rfl | rfl
  · exact Or.inl rfl
  · exact Or.inr rfl
theorem zfit {x : Int32} (h : narrow .boolean (.int x) = .int x) : fits .boolean (.int x) = true := by
  rcases z01 h with rfl | rfl <;> rfl
set_option maxHeartbeats 4000000 in
set_option maxRecDepth 100000 in
theorem c_X5_requireArgument (l : Launch) (dC : Nat → ClassId) (dI : Nat → Nat → Nat) (cI cJ cZ cO : ClassId) (fi : Int32) (sz : Nat) (hfi : ¬ fi = (0 : Int32)) : Met l yX5_requireArgument (Cond.code yX5_requireArgument cX5_requireArgument 1 none :: wAll) ({ frames := 0, cells := 0, slots := 0, locals := 0 }) (va_Pc [.int fi] (gP (dC, dI) [] (tyG cI cJ cZ cO) sz gN)) (va_Qv (fun (_ : Unit) => True) (fun _ t => gB (dC, dI) (va_A [] sz) [] (tyG cI cJ cZ cO) t) (va_A [] sz)) 0 0 (va_A [] sz) := by
  refine Met.ofW (cc := cX5_requireArgument) (maxL := 1) (ret := none) (by decide) rfl ?_
  intro p e s m args below meth c s₁ B hml hv
  obtain ⟨rfl, hsz, hP, hK, hD0, hG⟩ := hv
  have hx := B.exec
  have hb := B.bytes
  have hr := B.returns
  have hts := ht_of B.pre
  have hown : s.vm.findClass RX5 = some m.cls := findClass_of_methodNamed B.named
  have hlocks := B.notSynchronized
  subst hsz
  have hD := hD0.self (sz := s.heap.size)
  generalize hAe : va_A [] s.heap.size = A at hD ⊢
  have hA : ∀ q : Nat, s.heap.size ≤ q → A q := fun q h => by rw [← hAe]; exact Or.inr h
  have hS : va_S A s.heap s.heap [] := va_S.rf
  have hP : va_P (dC, dI) vwCl [] s.heap := hP
  have hl := lv_entry ([.int fi]) (n := 1) (Nat.le_of_ble_eq_true rfl)
  rw [lg_entry_eq]
  generalize (lg_sl ([.int fi]) ++ List.replicate (1 - (lg_sl ([.int fi])).length) Slot.unset).toArray = ls at hl ⊢
  have hl : lv_has ls 1 [(0, .int fi)] := hl
  refine hh_name (fun Q hQ => ?_)
  refine lv_iload_n hx hb dX5_requireArgument_0 rfl (lv_at hl 0 rfl) ?_
  refine lv_if_ne (tgt := 14) hx hb dX5_requireArgument_1 (by decide) (fun _ => ?_) (fun h9 => absurd h9 (hfi))
  exact hh_retv hQ hx hb hr hlocks hP hK hD hS dX5_requireArgument_14
set_option maxHeartbeats 4000000 in
set_option maxRecDepth 100000 in
theorem c_X5_requireState (l : Launch) (dC : Nat → ClassId) (dI : Nat → Nat → Nat) (cI cJ cZ cO : ClassId) (fi : Int32) (sz : Nat) (hfi : ¬ fi = (0 : Int32)) : Met l yX5_requireState (Cond.code yX5_requireState cX5_requireState 1 none :: wAll) ({ frames := 0, cells := 0, slots := 0, locals := 0 }) (va_Pc [.int fi] (gP (dC, dI) [] (tyG cI cJ cZ cO) sz gN)) (va_Qv (fun (_ : Unit) => True) (fun _ t => gB (dC, dI) (va_A [] sz) [] (tyG cI cJ cZ cO) t) (va_A [] sz)) 0 0 (va_A [] sz) := by
  refine Met.ofW (cc := cX5_requireState) (maxL := 1) (ret := none) (by decide) rfl ?_
  intro p e s m args below meth c s₁ B hml hv
  obtain ⟨rfl, hsz, hP, hK, hD0, hG⟩ := hv
  have hx := B.exec
  have hb := B.bytes
  have hr := B.returns
  have hts := ht_of B.pre
  have hown : s.vm.findClass RX5 = some m.cls := findClass_of_methodNamed B.named
  have hlocks := B.notSynchronized
  subst hsz
  have hD := hD0.self (sz := s.heap.size)
  generalize hAe : va_A [] s.heap.size = A at hD ⊢
  have hA : ∀ q : Nat, s.heap.size ≤ q → A q := fun q h => by rw [← hAe]; exact Or.inr h
  have hS : va_S A s.heap s.heap [] := va_S.rf
  have hP : va_P (dC, dI) vwCl [] s.heap := hP
  have hl := lv_entry ([.int fi]) (n := 1) (Nat.le_of_ble_eq_true rfl)
  rw [lg_entry_eq]
  generalize (lg_sl ([.int fi]) ++ List.replicate (1 - (lg_sl ([.int fi])).length) Slot.unset).toArray = ls at hl ⊢
  have hl : lv_has ls 1 [(0, .int fi)] := hl
  refine hh_name (fun Q hQ => ?_)
  refine lv_iload_n hx hb dX5_requireState_0 rfl (lv_at hl 0 rfl) ?_
  refine lv_if_ne (tgt := 14) hx hb dX5_requireState_1 (by decide) (fun _ => ?_) (fun h9 => absurd h9 (hfi))
  exact hh_retv hQ hx hb hr hlocks hP hK hD hS dX5_requireState_14
set_option maxHeartbeats 4000000 in
set_option maxRecDepth 100000 in
theorem c_X5_requireGainNumber (l : Launch) (dC : Nat → ClassId) (dI : Nat → Nat → Nat) (cI cJ cZ cO : ClassId) (wh : Int32) (sz : Nat) (hw0 : ¬ wh < (0 : Int32)) (hw2 : wh ≤ (2 : Int32)) : Met l yX5_requireGainNumber (Cond.code yX5_requireGainNumber cX5_requireGainNumber 1 none :: wAll) ({ frames := 0, cells := 0, slots := 0, locals := 0 }) (va_Pc [.int wh] (gP (dC, dI) [] (tyG cI cJ cZ cO) sz gN)) (va_Qv (fun (_ : Unit) => True) (fun _ t => gB (dC, dI) (va_A [] sz) [] (tyG cI cJ cZ cO) t) (va_A [] sz)) 0 0 (va_A [] sz) := by
  refine Met.ofW (cc := cX5_requireGainNumber) (maxL := 1) (ret := none) (by decide) rfl ?_
  intro p e s m args below meth c s₁ B hml hv
  obtain ⟨rfl, hsz, hP, hK, hD0, hG⟩ := hv
  have hx := B.exec
  have hb := B.bytes
  have hr := B.returns
  have hts := ht_of B.pre
  have hown : s.vm.findClass RX5 = some m.cls := findClass_of_methodNamed B.named
  have hlocks := B.notSynchronized
  subst hsz
  have hD := hD0.self (sz := s.heap.size)
  generalize hAe : va_A [] s.heap.size = A at hD ⊢
  have hA : ∀ q : Nat, s.heap.size ≤ q → A q := fun q h => by rw [← hAe]; exact Or.inr h
  have hS : va_S A s.heap s.heap [] := va_S.rf
  have hP : va_P (dC, dI) vwCl [] s.heap := hP
  have hl := lv_entry ([.int wh]) (n := 1) (Nat.le_of_ble_eq_true rfl)
  rw [lg_entry_eq]
  generalize (lg_sl ([.int wh]) ++ List.replicate (1 - (lg_sl ([.int wh])).length) Slot.unset).toArray = ls at hl ⊢
  have hl : lv_has ls 1 [(0, .int wh)] := hl
  refine hh_name (fun Q hQ => ?_)
  refine lv_iload_n hx hb dX5_requireGainNumber_0 rfl (lv_at hl 0 rfl) ?_
  refine lv_if_lt (tgt := 9) hx hb dX5_requireGainNumber_1 (by decide) (fun h9 => absurd h9 (hw0)) (fun _ => ?_)
  refine lv_iload_n hx hb dX5_requireGainNumber_4 rfl (lv_at hl 0 rfl) ?_
  refine lv_iconst (v := 2) hx hb dX5_requireGainNumber_5 (by decide) ?_
  refine lv_icmp_le (tgt := 19) hx hb dX5_requireGainNumber_6 (by decide) (fun _ => ?_) (fun h9 => absurd (hw2) h9)
  exact hh_retv hQ hx hb hr hlocks hP hK hD hS dX5_requireGainNumber_19
set_option maxHeartbeats 4000000 in
set_option maxRecDepth 100000 in
theorem c_X5_requireWithin (l : Launch) (dC : Nat → ClassId) (dI : Nat → Nat → Nat) (cI cJ cZ cO : ClassId) (v lo hi : Int32) (sz : Nat) (hlo : ¬ v < lo) (hhi : ¬ hi < v) : Met l yX5_requireWithin (Cond.code yX5_requireWithin cX5_requireWithin 3 none :: wAll) ({ frames := 1, cells := 0, slots := 0, locals := 20 }) (va_Pc [.int v, .int lo, .int hi] (gP (dC, dI) [] (tyG cI cJ cZ cO) sz gN)) (va_Qv (fun (_ : Unit) => True) (fun _ t => gB (dC, dI) (va_A [] sz) [] (tyG cI cJ cZ cO) t) (va_A [] sz)) 0 0 (va_A [] sz) := by
  refine Met.ofW (cc := cX5_requireWithin) (maxL := 3) (ret := none) (by decide) rfl ?_
  intro p e s m args below meth c s₁ B hml hv
  obtain ⟨rfl, hsz, hP, hK, hD0, hG⟩ := hv
  have hx := B.exec
  have hb := B.bytes
  have hr := B.returns
  have hts := ht_of B.pre
  have hown : s.vm.findClass RX5 = some m.cls := findClass_of_methodNamed B.named
  have hlocks := B.notSynchronized
  subst hsz
  have hD := hD0.self (sz := s.heap.size)
  generalize hAe : va_A [] s.heap.size = A at hD ⊢
  have hA : ∀ q : Nat, s.heap.size ≤ q → A q := fun q h => by rw [← hAe]; exact Or.inr h
  have hS : va_S A s.heap s.heap [] := va_S.rf
  have hP : va_P (dC, dI) vwCl [] s.heap := hP
  have hl := lv_entry ([.int v, .int lo, .int hi]) (n := 3) (Nat.le_of_ble_eq_true rfl)
  rw [lg_entry_eq]
  generalize (lg_sl ([.int v, .int lo, .int hi]) ++ List.replicate (3 - (lg_sl ([.int v, .int lo, .int hi])).length) Slot.unset).toArray = ls at hl ⊢
  have hl : lv_has ls 3 [(0, .int v), (1, .int lo), (2, .int hi)] := hl
  refine hh_name (fun Q hQ => ?_)
  refine lv_iload_n hx hb dX5_requireWithin_0 rfl (lv_at hl 0 rfl) ?_
  refine lv_iload_n hx hb dX5_requireWithin_1 rfl (lv_at hl 1 rfl) ?_
  refine lv_icmp_lt (tgt := 14) hx hb dX5_requireWithin_2 (by decide) (fun h9 => absurd h9 (hlo)) (fun _ => ?_)
  refine lv_iload_n hx hb dX5_requireWithin_5 rfl (lv_at hl 0 rfl) ?_
  refine lv_iload_n hx hb dX5_requireWithin_6 rfl (lv_at hl 2 rfl) ?_
  refine lv_icmp_gt (tgt := 14) hx hb dX5_requireWithin_7 (by decide) (fun h9 => absurd h9 (hhi)) (fun _ => ?_)
  refine lv_iconst (v := 1) hx hb dX5_requireWithin_10 (by decide) ?_
  refine lv_goto (tgt := 15) hx hb dX5_requireWithin_11 (by decide) ?_
  refine hh_callv (w2 := []) (va_runS (As := [.int (1 : Int32)]) (rest := []) ⟨hx, hb, hml, hown, hts⟩ (c_X5_requireArgument l dC dI cI cJ cZ cO (1 : Int32) _ (by decide)) (va_cwS 1 hts (gd_S wd_2_113 wd_2_114 wd_1_1 wd_2_115) rfl rfl rfl (by decide +kernel) ⟨Nat.le_of_ble_eq_true rfl, Nat.le_of_ble_eq_true rfl⟩) (hh_pS gN_c (fun U _ hW => gN_w hW hG) hK hP hD [] rfl rfl) rfl rfl hl.1 rfl (lv_room (Nat.le_of_ble_eq_true rfl)) dX5_requireWithin_15 ⟨Nat.le_of_ble_eq_true rfl, Nat.le_of_ble_eq_true rfl⟩) hP hD hS hA [] [] [] rfl rfl rfl (by decide) rfl rfl (fun H locs hP hD hS => ?_)
  exact hh_retv hQ hx hb hr hlocks hP hK hD hS dX5_requireWithin_18
set_option maxHeartbeats 4000000 in
set_option maxRecDepth 100000 in
theorem c_X5_requireGains (l : Launch) (dC : Nat → ClassId) (dI : Nat → Nat → Nat) (cI cJ cZ cO : ClassId) (np ni nd : Int32) (sz : Nat) (q1 : ¬ np < (-20000 : Int32)) (q2 : ¬ (20000 : Int32) < np) (q3 : ¬ ni < (-5000 : Int32)) (q4 : ¬ (5000 : Int32) < ni) (q5 : ¬ nd < (-50000 : Int32)) (q6 : ¬ (50000 : Int32) < nd) : Met l yX5_requireGains (Cond.code yX5_requireGains cX5_requireGains 3 none :: wAll) ({ frames := 2, cells := 0, slots := 0, locals := 42 }) (va_Pc [.int np, .int ni, .int nd] (gP (dC, dI) [] (tyG cI cJ cZ cO) sz gN)) (va_Qv (fun (_ : Unit) => True) (fun _ t => gB (dC, dI) (va_A [] sz) [] (tyG cI cJ cZ cO) t) (va_A [] sz)) 0 0 (va_A [] sz) := by
  refine Met.ofW (cc := cX5_requireGains) (maxL := 3) (ret := none) (by decide) rfl ?_
  intro p e s m args below meth c s₁ B hml hv
  obtain ⟨rfl, hsz, hP, hK, hD0, hG⟩ := hv
  have hx := B.exec
  have hb := B.bytes
  have hr := B.returns
  have hts := ht_of B.pre
  have hown : s.vm.findClass RX5 = some m.cls := findClass_of_methodNamed B.named
  have hlocks := B.notSynchronized
  subst hsz
  have hD := hD0.self (sz := s.heap.size)
  generalize hAe : va_A [] s.heap.size = A at hD ⊢
  have hA : ∀ q : Nat, s.heap.size ≤ q → A q := fun q h => by rw [← hAe]; exact Or.inr h
  have hS : va_S A s.heap s.heap [] := va_S.rf
  have hP : va_P (dC, dI) vwCl [] s.heap := hP
  have hl := lv_entry ([.int np, .int ni, .int nd]) (n := 3) (Nat.le_of_ble_eq_true rfl)
  rw [lg_entry_eq]
  generalize (lg_sl ([.int np, .int ni, .int nd]) ++ List.replicate (3 - (lg_sl ([.int np, .int ni, .int nd])).length) Slot.unset).toArray = ls at hl ⊢
  have hl : lv_has ls 3 [(0, .int np), (1, .int ni), (2, .int nd)] := hl
  refine hh_name (fun Q hQ => ?_)
  refine lv_iload_n hx hb dX5_requireGains_0 rfl (lv_at hl 0 rfl) ?_
  refine lv_sipush (v := -20000) hx hb dX5_requireGains_1 (by decide) ?_
  refine lv_sipush (v := 20000) hx hb dX5_requireGains_4 (by decide) ?_
  refine hh_callv (w2 := []) (va_runS (As := [.int np, .int (-20000 : Int32), .int (20000 : Int32)]) (rest := []) ⟨hx, hb, hml, hown, hts⟩ (c_X5_requireWithin l dC dI cI cJ cZ cO np (-20000 : Int32) (20000 : Int32) _ q1 q2) (va_cwS 3 hts (gd_S wd_2_110 wd_2_111 wd_1_1 wd_2_112) rfl rfl rfl (by decide +kernel) ⟨Nat.le_of_ble_eq_true rfl, Nat.le_of_ble_eq_true rfl⟩) (hh_pS gN_c (fun U _ hW => gN_w hW hG) hK hP hD [] rfl rfl) rfl rfl hl.1 rfl (lv_room (Nat.le_of_ble_eq_true rfl)) dX5_requireGains_7 ⟨Nat.le_of_ble_eq_true rfl, Nat.le_of_ble_eq_true rfl⟩) hP hD hS hA [] [] [] rfl rfl rfl (by decide) rfl rfl (fun H locs hP hD hS => ?_)
  refine lv_iload_n hx hb dX5_requireGains_10 rfl (lv_at hl 1 rfl) ?_
  refine lv_sipush (v := -5000) hx hb dX5_requireGains_11 (by decide) ?_
  refine lv_sipush (v := 5000) hx hb dX5_requireGains_14 (by decide) ?_
  refine hh_callv (w2 := []) (va_runS (As := [.int ni, .int (-5000 : Int32), .int (5000 : Int32)]) (rest := []) ⟨hx, hb, hml, hown, hts⟩ (c_X5_requireWithin l dC dI cI cJ cZ cO ni (-5000 : Int32) (5000 : Int32) _ q3 q4) (va_cwS 3 hts (gd_S wd_2_110 wd_2_111 wd_1_1 wd_2_112) rfl rfl rfl (by decide +kernel) ⟨Nat.le_of_ble_eq_true rfl, Nat.le_of_ble_eq_true rfl⟩) (hh_pS gN_c (fun U _ hW => gN_w hW hG) hK hP hD [] rfl rfl) rfl rfl hl.1 rfl (lv_room (Nat.le_of_ble_eq_true rfl)) dX5_requireGains_17 ⟨Nat.le_of_ble_eq_true rfl, Nat.le_of_ble_eq_true rfl⟩) hP hD hS hA [] [] [] rfl rfl rfl (by decide) rfl rfl (fun H locs hP hD hS => ?_)
  refine lv_iload_n hx hb dX5_requireGains_20 rfl (lv_at hl 2 rfl) ?_
  refine lv_ldc (v := -50000) hx hb hown (hts _ wd_2_171) dX5_requireGains_21 ?_
  refine lv_ldc (v := 50000) hx hb hown (hts _ wd_2_172) dX5_requireGains_23 ?_
  refine hh_callv (w2 := []) (va_runS (As := [.int nd, .int (-50000 : Int32), .int (50000 : Int32)]) (rest := []) ⟨hx, hb, hml, hown, hts⟩ (c_X5_requireWithin l dC dI cI cJ cZ cO nd (-50000 : Int32) (50000 : Int32) _ q5 q6) (va_cwS 3 hts (gd_S wd_2_110 wd_2_111 wd_1_1 wd_2_112) rfl rfl rfl (by decide +kernel) ⟨Nat.le_of_ble_eq_true rfl, Nat.le_of_ble_eq_true rfl⟩) (hh_pS gN_c (fun U _ hW => gN_w hW hG) hK hP hD [] rfl rfl) rfl rfl hl.1 rfl (lv_room (Nat.le_of_ble_eq_true rfl)) dX5_requireGains_25 ⟨Nat.le_of_ble_eq_true rfl, Nat.le_of_ble_eq_true rfl⟩) hP hD hS hA [] [] [] rfl rfl rfl (by decide) rfl rfl (fun H locs hP hD hS => ?_)
  exact hh_retv hQ hx hb hr hlocks hP hK hD hS dX5_requireGains_28
set_option maxHeartbeats 4000000 in
set_option maxRecDepth 100000 in
theorem c_X5_loopAt (l : Launch) (dC : Nat → ClassId) (dI : Nat → Nat → Nat) (cI cJ cZ cO : ClassId) (adB adA : Nat) (bs : Int32) (lf : Nat → Option Nat) (lp : Int32) (adL : Nat) (sz : Nat) (hl0 : ¬ lp < (0 : Int32)) (hl3 : lp < (3 : Int32)) (hlf : lf lp.toNatClampNeg = some adL) : Met l yX5_loopAt (Cond.code yX5_loopAt cX5_loopAt 2 (some (.object "ControlBench$Loop")) :: wAll) ({ frames := 0, cells := 0, slots := 0, locals := 0 }) (va_Pc [.ref adB, .int lp] (gP (dC, dI) [zX5 adB adA bs, zAL cO adA 3 lf] (tyG cI cJ cZ cO) sz gN)) (va_Qq (fun r (_ : Unit) => r = some adL) (fun _ t => gB (dC, dI) (va_A [zX5 adB adA bs, zAL cO adA 3 lf] sz) [zX5 adB adA bs, zAL cO adA 3 lf] (tyG cI cJ cZ cO) t) (va_A [zX5 adB adA bs, zAL cO adA 3 lf] sz)) 0 0 (va_A [zX5 adB adA bs, zAL cO adA 3 lf] sz) := by
  refine Met.ofW (cc := cX5_loopAt) (maxL := 2) (ret := (some (.object "ControlBench$Loop"))) (by decide) rfl ?_
  intro p e s m args below meth c s₁ B hml hv
  obtain ⟨rfl, hsz, hP, hK, hD0, hG⟩ := hv
  have hx := B.exec
  have hb := B.bytes
  have hr := B.returns
  have hts := ht_of B.pre
  have hown : s.vm.findClass RX5 = some m.cls := findClass_of_methodNamed B.named
  have hlocks := B.notSynchronized
  subst hsz
  have hD := hD0.self (sz := s.heap.size)
  generalize hAe : va_A [zX5 adB adA bs, zAL cO adA 3 lf] s.heap.size = A at hD ⊢
  have hA : ∀ q : Nat, s.heap.size ≤ q → A q := fun q h => by rw [← hAe]; exact Or.inr h
  have hS : va_S A s.heap s.heap [] := va_S.rf
  have hP : va_P (dC, dI) vwCl [zX5 adB adA bs, zAL cO adA 3 lf] s.heap := hP
  have hl := lv_entry ([.ref adB, .int lp]) (n := 2) (Nat.le_of_ble_eq_true rfl)
  rw [lg_entry_eq]
  generalize (lg_sl ([.ref adB, .int lp]) ++ List.replicate (2 - (lg_sl ([.ref adB, .int lp])).length) Slot.unset).toArray = ls at hl ⊢
  have hl : lv_has ls 2 [(0, .ref adB), (1, .int lp)] := hl
  refine hh_name (fun Q hQ => ?_)
  refine lv_iload_n hx hb dX5_loopAt_0 rfl (lv_at hl 1 rfl) ?_
  refine lv_if_lt (tgt := 13) hx hb dX5_loopAt_1 (by decide) (fun h9 => absurd h9 (hl0)) (fun _ => ?_)
  refine lv_iload_n hx hb dX5_loopAt_4 rfl (lv_at hl 1 rfl) ?_
  refine lv_aload_n hx hb dX5_loopAt_5 rfl (lv_at hl 0 rfl) ?_
  refine va_get (D := (dC, dI)) (ci := 5) (v := .ref adA) (C := RX5) (T := TX5) (N := 2) hx hb hts inW_X5 hown hK hP 0 rfl rfl 0 (by decide) (hts _ wd_2_14) (fun _ h9 => h9) rfl dX5_loopAt_6 ?_
  refine va_alen hx hb hK hP 1 3 rfl rfl (v := 3) rfl dX5_loopAt_9 ?_
  refine lv_icmp_lt (tgt := 23) hx hb dX5_loopAt_10 (by decide) (fun _ => ?_) (fun h9 => absurd (hl3) h9)
  refine lv_aload_n hx hb dX5_loopAt_23 rfl (lv_at hl 0 rfl) ?_
  refine va_get (D := (dC, dI)) (ci := 5) (v := .ref adA) (C := RX5) (T := TX5) (N := 2) hx hb hts inW_X5 hown hK hP 0 rfl rfl 0 (by decide) (hts _ wd_2_14) (fun _ h9 => h9) rfl dX5_loopAt_24 ?_
  refine lv_iload_n hx hb dX5_loopAt_27 rfl (lv_at hl 1 rfl) ?_
  refine va_aldq hx hb hK hP 1 3 rfl rfl (i := lp) (ix_3 hl0 hl3) dX5_loopAt_28 ?_
  refine hh_setv (y := .ref adL) (show va_rf _ = _ from by rw [hlf]; rfl) ?_
  exact hh_retq hQ (rfl) hx hb hr (Or.inl ⟨_, rfl⟩) hlocks hP hK hD hS dX5_loopAt_29
