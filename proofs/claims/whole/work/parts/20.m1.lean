theorem ix_of {P : Int32 → Prop} {n : Int32} (h : n = 0 ∨ n = 1 ∨ n = 2) (h0 : P 0) (h1 : P 1) (h2 : P 2) : P n := by
  rcases h with rfl | rfl | rfl
  · exact h0
  · exact h1
  · exact h2
abbrev zX6 (h : Nat) (a0 : Int32) (a1 : Nat) (a2 : Nat) (a3 : Nat) (a4 : Nat) (a5 : Nat) (a6 : Nat) (a7 : Nat) (a8 : Nat) (a9 : Nat) (a10 : Nat) (a11 : Nat) (a12 : Nat) (a13 : Nat) (a14 : Nat) (a15 : Nat) (a16 : Nat) (a17 : Nat) (a18 : Nat) (a19 : Nat) (a20 : Nat) (a21 : Nat) (a22 : Nat) (a23 : Nat) (a24 : Nat) (a25 : Nat) (a26 : Nat) (a27 : Nat) (a28 : Nat) (a29 : Nat) (a30 : Nat) (a31 : Nat) (a32 : Nat) (a33 : Nat) (a34 : Nat) (a35 : Nat) (a36 : Nat) (a37 : Nat) (a38 : Nat) (a39 : Nat) (a40 : Nat) (a41 : Int32) : Nat × va_E := (h, .inr (6, [.int a0, .ref a1, .ref a2, .ref a3, .ref a4, .ref a5, .ref a6, .ref a7, .ref a8, .ref a9, .ref a10, .ref a11, .ref a12, .ref a13, .ref a14, .ref a15, .ref a16, .ref a17, .ref a18, .ref a19, .ref a20, .ref a21, .ref a22, .ref a23, .ref a24, .ref a25, .ref a26, .ref a27, .ref a28, .ref a29, .ref a30, .ref a31, .ref a32, .ref a33, .ref a34, .ref a35, .ref a36, .ref a37, .ref a38, .ref a39, .ref a40, .int a41]))
set_option maxHeartbeats 4000000 in
set_option maxRecDepth 100000 in
theorem c_X6_thrown (l : Launch) (dC : Nat → ClassId) (dI : Nat → Nat → Nat) (cI cJ cZ cO : ClassId) (adM : Nat) (ms_samples : Int32) (q_a1 q_a2 q_b q_deadTime q_load q_measure q_before q_past q_gain q_low q_high q_setpoint q_integral q_guard q_share q_mode q_hand q_follows q_hasMaster q_isStarved q_held q_sum q_lastError q_lastRate q_goesOn q_points q_at q_then q_experiment q_center q_height q_band q_isUp q_gone q_risings q_second q_greatest q_least q_period q_swing : Nat) (ms_thrown : Int32) (sz : Nat)  : Met l yX6_thrown (Cond.code yX6_thrown cX6_thrown 1 (some .int) :: wAll) ({ frames := 0, cells := 0, slots := 0, locals := 0 }) (va_Pc [.ref adM] (gP (dC, dI) [zX6 adM ms_samples q_a1 q_a2 q_b q_deadTime q_load q_measure q_before q_past q_gain q_low q_high q_setpoint q_integral q_guard q_share q_mode q_hand q_follows q_hasMaster q_isStarved q_held q_sum q_lastError q_lastRate q_goesOn q_points q_at q_then q_experiment q_center q_height q_band q_isUp q_gone q_risings q_second q_greatest q_least q_period q_swing ms_thrown] (tyG cI cJ cZ cO) sz gU)) (va_Qi (fun r (_ : Unit) => r = ms_thrown) (fun _ t => gB (dC, dI) (va_A [zX6 adM ms_samples q_a1 q_a2 q_b q_deadTime q_load q_measure q_before q_past q_gain q_low q_high q_setpoint q_integral q_guard q_share q_mode q_hand q_follows q_hasMaster q_isStarved q_held q_sum q_lastError q_lastRate q_goesOn q_points q_at q_then q_experiment q_center q_height q_band q_isUp q_gone q_risings q_second q_greatest q_least q_period q_swing ms_thrown] sz) [zX6 adM ms_samples q_a1 q_a2 q_b q_deadTime q_load q_measure q_before q_past q_gain q_low q_high q_setpoint q_integral q_guard q_share q_mode q_hand q_follows q_hasMaster q_isStarved q_held q_sum q_lastError q_lastRate q_goesOn q_points q_at q_then q_experiment q_center q_height q_band q_isUp q_gone q_risings q_second q_greatest q_least q_period q_swing ms_thrown] (tyG cI cJ cZ cO) t) (va_A [zX6 adM ms_samples q_a1 q_a2 q_b q_deadTime q_load q_measure q_before q_past q_gain q_low q_high q_setpoint q_integral q_guard q_share q_mode q_hand q_follows q_hasMaster q_isStarved q_held q_sum q_lastError q_lastRate q_goesOn q_points q_at q_then q_experiment q_center q_height q_band q_isUp q_gone q_risings q_second q_greatest q_least q_period q_swing ms_thrown] sz)) 0 0 (va_A [zX6 adM ms_samples q_a1 q_a2 q_b q_deadTime q_load q_measure q_before q_past q_gain q_low q_high q_setpoint q_integral q_guard q_share q_mode q_hand q_follows q_hasMaster q_isStarved q_held q_sum q_lastError q_lastRate q_goesOn q_points q_at q_then q_experiment q_center q_height q_band q_isUp q_gone q_risings q_second q_greatest q_least q_period q_swing ms_thrown] sz) := by
  refine Met.ofW (cc := cX6_thrown) (maxL := 1) (ret := (some .int)) (by decide) rfl ?_
  intro p e s m args below meth c s₁ B hml hv
  obtain ⟨rfl, hsz, hP, hK, hD0, hG⟩ := hv
  have hx := B.exec
  have hb := B.bytes
  have hr := B.returns
  have hts := ht_of B.pre
  have hown : s.vm.findClass RX6 = some m.cls := findClass_of_methodNamed B.named
  have hlocks := B.notSynchronized
  subst hsz
  have hD := hD0.self (sz := s.heap.size)
  generalize hAe : va_A [zX6 adM ms_samples q_a1 q_a2 q_b q_deadTime q_load q_measure q_before q_past q_gain q_low q_high q_setpoint q_integral q_guard q_share q_mode q_hand q_follows q_hasMaster q_isStarved q_held q_sum q_lastError q_lastRate q_goesOn q_points q_at q_then q_experiment q_center q_height q_band q_isUp q_gone q_risings q_second q_greatest q_least q_period q_swing ms_thrown] s.heap.size = A at hD ⊢
  have hA : ∀ q : Nat, s.heap.size ≤ q → A q := fun q h => by rw [← hAe]; exact Or.inr h
  have hS : va_S A s.heap s.heap [] := va_S.rf
  have hP : va_P (dC, dI) vwCl [zX6 adM ms_samples q_a1 q_a2 q_b q_deadTime q_load q_measure q_before q_past q_gain q_low q_high q_setpoint q_integral q_guard q_share q_mode q_hand q_follows q_hasMaster q_isStarved q_held q_sum q_lastError q_lastRate q_goesOn q_points q_at q_then q_experiment q_center q_height q_band q_isUp q_gone q_risings q_second q_greatest q_least q_period q_swing ms_thrown] s.heap := hP
  have hl := lv_entry ([.ref adM]) (n := 1) (Nat.le_of_ble_eq_true rfl)
  rw [lg_entry_eq]
  generalize (lg_sl ([.ref adM]) ++ List.replicate (1 - (lg_sl ([.ref adM])).length) Slot.unset).toArray = ls at hl ⊢
  have hl : lv_has ls 1 [(0, .ref adM)] := hl
  refine hh_name (fun Q hQ => ?_)
  refine lv_aload_n hx hb dX6_thrown_0 rfl (lv_at hl 0 rfl) ?_
  refine va_get (D := (dC, dI)) (ci := 6) (v := .int ms_thrown) (C := RX6) (T := TX6) (N := 42) hx hb hts inW_X6 hown hK hP 0 rfl rfl 41 (by decide) (hts _ wd_4_97) (fun _ h9 => h9) rfl dX6_thrown_1 ?_
  exact hh_reti hQ (rfl) hx hb hr hlocks hP hK hD hS dX6_thrown_4
def f_X6_can_j1_1 (fa : Int32) : Int32 := if fa = (0 : Int32) then (1 : Int32) else (0 : Int32)
theorem f_X6_can_j1_1_z (fa : Int32) : narrow .boolean (.int (f_X6_can_j1_1 fa)) = .int (f_X6_can_j1_1 fa) := by
  unfold f_X6_can_j1_1
  repeat' split
  all_goals rfl
set_option maxHeartbeats 4000000 in
set_option maxRecDepth 100000 in
theorem c_X6_can (l : Launch) (dC : Nat → ClassId) (dI : Nat → Nat → Nat) (cI cJ cZ cO : ClassId) (adM : Nat) (ms_samples : Int32) (q_a1 q_a2 q_b q_deadTime q_load q_measure q_before q_past q_gain q_low q_high q_setpoint q_integral q_guard q_share q_mode q_hand q_follows q_hasMaster q_isStarved q_held q_sum q_lastError q_lastRate q_goesOn q_points q_at q_then q_experiment q_center q_height q_band q_isUp q_gone q_risings q_second q_greatest q_least q_period q_swing : Nat) (ms_thrown fa : Int32) (sz : Nat)  : Met l yX6_can (Cond.code yX6_can cX6_can 2 (some .boolean) :: wAll) ({ frames := 0, cells := 0, slots := 0, locals := 0 }) (va_Pc [.ref adM, .int fa] (gP (dC, dI) [zX6 adM ms_samples q_a1 q_a2 q_b q_deadTime q_load q_measure q_before q_past q_gain q_low q_high q_setpoint q_integral q_guard q_share q_mode q_hand q_follows q_hasMaster q_isStarved q_held q_sum q_lastError q_lastRate q_goesOn q_points q_at q_then q_experiment q_center q_height q_band q_isUp q_gone q_risings q_second q_greatest q_least q_period q_swing ms_thrown] (tyG cI cJ cZ cO) sz gU)) (va_Qi (fun r (_ : Unit) => r = (f_X6_can_j1_1 fa)) (fun _ t => gB (dC, dI) (va_A [zX6 adM ms_samples q_a1 q_a2 q_b q_deadTime q_load q_measure q_before q_past q_gain q_low q_high q_setpoint q_integral q_guard q_share q_mode q_hand q_follows q_hasMaster q_isStarved q_held q_sum q_lastError q_lastRate q_goesOn q_points q_at q_then q_experiment q_center q_height q_band q_isUp q_gone q_risings q_second q_greatest q_least q_period q_swing ms_thrown] sz) [zX6 adM ms_samples q_a1 q_a2 q_b q_deadTime q_load q_measure q_before q_past q_gain q_low q_high q_setpoint q_integral q_guard q_share q_mode q_hand q_follows q_hasMaster q_isStarved q_held q_sum q_lastError q_lastRate q_goesOn q_points q_at q_then q_experiment q_center q_height q_band q_isUp q_gone q_risings q_second q_greatest q_least q_period q_swing fa] (tyG cI cJ cZ cO) t) (va_A [zX6 adM ms_samples q_a1 q_a2 q_b q_deadTime q_load q_measure q_before q_past q_gain q_low q_high q_setpoint q_integral q_guard q_share q_mode q_hand q_follows q_hasMaster q_isStarved q_held q_sum q_lastError q_lastRate q_goesOn q_points q_at q_then q_experiment q_center q_height q_band q_isUp q_gone q_risings q_second q_greatest q_least q_period q_swing ms_thrown] sz)) 0 0 (va_A [zX6 adM ms_samples q_a1 q_a2 q_b q_deadTime q_load q_measure q_before q_past q_gain q_low q_high q_setpoint q_integral q_guard q_share q_mode q_hand q_follows q_hasMaster q_isStarved q_held q_sum q_lastError q_lastRate q_goesOn q_points q_at q_then q_experiment q_center q_height q_band q_isUp q_gone q_risings q_second q_greatest q_least q_period q_swing ms_thrown] sz) := by
  refine Met.ofW (cc := cX6_can) (maxL := 2) (ret := (some .boolean)) (by decide) rfl ?_
  intro p e s m args below meth c s₁ B hml hv
  obtain ⟨rfl, hsz, hP, hK, hD0, hG⟩ := hv
  have hx := B.exec
  have hb := B.bytes
  have hr := B.returns
  have hts := ht_of B.pre
  have hown : s.vm.findClass RX6 = some m.cls := findClass_of_methodNamed B.named
  have hlocks := B.notSynchronized
  subst hsz
  have hD := hD0.self (sz := s.heap.size)
  generalize hAe : va_A [zX6 adM ms_samples q_a1 q_a2 q_b q_deadTime q_load q_measure q_before q_past q_gain q_low q_high q_setpoint q_integral q_guard q_share q_mode q_hand q_follows q_hasMaster q_isStarved q_held q_sum q_lastError q_lastRate q_goesOn q_points q_at q_then q_experiment q_center q_height q_band q_isUp q_gone q_risings q_second q_greatest q_least q_period q_swing ms_thrown] s.heap.size = A at hD ⊢
  have hA : ∀ q : Nat, s.heap.size ≤ q → A q := fun q h => by rw [← hAe]; exact Or.inr h
  have hS : va_S A s.heap s.heap [] := va_S.rf
  have hP : va_P (dC, dI) vwCl [zX6 adM ms_samples q_a1 q_a2 q_b q_deadTime q_load q_measure q_before q_past q_gain q_low q_high q_setpoint q_integral q_guard q_share q_mode q_hand q_follows q_hasMaster q_isStarved q_held q_sum q_lastError q_lastRate q_goesOn q_points q_at q_then q_experiment q_center q_height q_band q_isUp q_gone q_risings q_second q_greatest q_least q_period q_swing ms_thrown] s.heap := hP
  have hl := lv_entry ([.ref adM, .int fa]) (n := 2) (Nat.le_of_ble_eq_true rfl)
  rw [lg_entry_eq]
  generalize (lg_sl ([.ref adM, .int fa]) ++ List.replicate (2 - (lg_sl ([.ref adM, .int fa])).length) Slot.unset).toArray = ls at hl ⊢
  have hl : lv_has ls 2 [(0, .ref adM), (1, .int fa)] := hl
  refine hh_name (fun Q hQ => ?_)
  refine lv_aload_n hx hb dX6_can_0 rfl (lv_at hl 0 rfl) ?_
  refine lv_iload_n hx hb dX6_can_1 rfl (lv_at hl 1 rfl) ?_
  refine va_put (D := (dC, dI)) (ci := 6) (v := .int fa) (ty := .int) (C := RX6) (T := TX6) (N := 42) hx hb hts inW_X6 tyX6 tyX6_ok nmX6 hown hK hP hD hS 0 rfl rfl 41 (by decide) (hts _ wd_4_97) (fun _ h9 => h9) rfl (tyX6_ok 41 (by decide)) rfl rfl (Nat.le_of_ble_eq_true rfl) dX6_can_2 (fun H locs hP hD hS => ?_)
  have hP : va_P (dC, dI) vwCl [zX6 adM ms_samples q_a1 q_a2 q_b q_deadTime q_load q_measure q_before q_past q_gain q_low q_high q_setpoint q_integral q_guard q_share q_mode q_hand q_follows q_hasMaster q_isStarved q_held q_sum q_lastError q_lastRate q_goesOn q_points q_at q_then q_experiment q_center q_height q_band q_isUp q_gone q_risings q_second q_greatest q_least q_period q_swing fa] H := hP
  have hD : va_D A [zX6 adM ms_samples q_a1 q_a2 q_b q_deadTime q_load q_measure q_before q_past q_gain q_low q_high q_setpoint q_integral q_guard q_share q_mode q_hand q_follows q_hasMaster q_isStarved q_held q_sum q_lastError q_lastRate q_goesOn q_points q_at q_then q_experiment q_center q_height q_band q_isUp q_gone q_risings q_second q_greatest q_least q_period q_swing fa] := hD
  refine lv_iload_n hx hb dX6_can_5 rfl (lv_at hl 1 rfl) ?_
  have J1 : ∀ (H : Heap) (locs : List Loc) (ls : Array Slot), va_P (dC, dI) vwCl [zX6 adM ms_samples q_a1 q_a2 q_b q_deadTime q_load q_measure q_before q_past q_gain q_low q_high q_setpoint q_integral q_guard q_share q_mode q_hand q_follows q_hasMaster q_isStarved q_held q_sum q_lastError q_lastRate q_goesOn q_points q_at q_then q_experiment q_center q_height q_band q_isUp q_gone q_risings q_second q_greatest q_least q_period q_swing fa] H → va_D A [zX6 adM ms_samples q_a1 q_a2 q_b q_deadTime q_load q_measure q_before q_past q_gain q_low q_high q_setpoint q_integral q_guard q_share q_mode q_hand q_follows q_hasMaster q_isStarved q_held q_sum q_lastError q_lastRate q_goesOn q_points q_at q_then q_experiment q_center q_height q_band q_isUp q_gone q_risings q_second q_greatest q_least q_period q_swing fa] → va_S A s.heap H locs → lv_has ls 2 [(0, .ref adM), (1, .int fa)] → W p l e (headSpec (Cond.code yX6_can cX6_can 2 (some .boolean) :: wAll) ({ frames := 0, cells := 0, slots := 0, locals := 0 })).room s m ([.ref adM, .int fa] : List Value).toArray below meth c H locs 0 0 Q (F0 m 14 ls [.int (f_X6_can_j1_1 fa)]) := by
    intro H locs ls hP hD hS hl
    exact hh_retz hQ (rfl) (f_X6_can_j1_1_z fa) hx hb hr hlocks hP hK hD hS dX6_can_14
  refine lv_if_ne (tgt := 13) hx hb dX6_can_6 (by decide) (fun h1 => ?_) (fun h1 => ?_)
  · skip
    refine lv_iconst (v := 0) hx hb dX6_can_13 (by decide) ?_
    have e2 : (f_X6_can_j1_1 fa) = (0 : Int32) := if_neg h1
    refine hh_seti (y := (f_X6_can_j1_1 fa)) (if_neg h1) ?_
    exact J1 _ _ _ (hP) (hD) hS (lv_sub hl [0, 1] rfl)
  · skip
    refine lv_iconst (v := 1) hx hb dX6_can_9 (by decide) ?_
    refine lv_goto (tgt := 14) hx hb dX6_can_10 (by decide) ?_
    have e3 : (f_X6_can_j1_1 fa) = (1 : Int32) := if_pos h1
    refine hh_seti (y := (f_X6_can_j1_1 fa)) (if_pos h1) ?_
    exact J1 _ _ _ (hP) (hD) hS (lv_sub hl [0, 1] rfl)
def f_X6_isLoop_j1_1 (lp : Int32) : Int32 := if lp < (0 : Int32) then (0 : Int32) else (if (3 : Int32) ≤ lp then (0 : Int32) else (1 : Int32))
theorem f_X6_isLoop_j1_1_z (lp : Int32) : narrow .boolean (.int (f_X6_isLoop_j1_1 lp)) = .int (f_X6_isLoop_j1_1 lp) := by
  unfold f_X6_isLoop_j1_1
  repeat' split
  all_goals rfl
set_option maxHeartbeats 4000000 in
set_option maxRecDepth 100000 in
theorem c_X6_isLoop (l : Launch) (dC : Nat → ClassId) (dI : Nat → Nat → Nat) (cI cJ cZ cO : ClassId) (lp : Int32) (sz : Nat)  : Met l yX6_isLoop (Cond.code yX6_isLoop cX6_isLoop 1 (some .boolean) :: wAll) ({ frames := 0, cells := 0, slots := 0, locals := 0 }) (va_Pc [.int lp] (gP (dC, dI) [] (tyG cI cJ cZ cO) sz gU)) (va_Qi (fun r (_ : Unit) => r = (f_X6_isLoop_j1_1 lp)) (fun _ t => gB (dC, dI) (va_A [] sz) [] (tyG cI cJ cZ cO) t) (va_A [] sz)) 0 0 (va_A [] sz) := by
  refine Met.ofW (cc := cX6_isLoop) (maxL := 1) (ret := (some .boolean)) (by decide) rfl ?_
  intro p e s m args below meth c s₁ B hml hv
  obtain ⟨rfl, hsz, hP, hK, hD0, hG⟩ := hv
  have hx := B.exec
  have hb := B.bytes
  have hr := B.returns
  have hts := ht_of B.pre
  have hown : s.vm.findClass RX6 = some m.cls := findClass_of_methodNamed B.named
  have hlocks := B.notSynchronized
  subst hsz
  have hD := hD0.self (sz := s.heap.size)
  generalize hAe : va_A [] s.heap.size = A at hD ⊢
  have hA : ∀ q : Nat, s.heap.size ≤ q → A q := fun q h => by rw [← hAe]; exact Or.inr h
  have hS : va_S A s.heap s.heap [] := va_S.rf
  have hP : va_P (dC, dI) vwCl [] s.heap := hP
  have hl := lv_entry ([.int lp]) (n := 1) (Nat.le_of_ble_eq_true rfl)
  rw [lg_entry_eq]
  generalize (lg_sl ([.int lp]) ++ List.replicate (1 - (lg_sl ([.int lp])).length) Slot.unset).toArray = ls at hl ⊢
  have hl : lv_has ls 1 [(0, .int lp)] := hl
  refine hh_name (fun Q hQ => ?_)
  refine lv_iload_n hx hb dX6_isLoop_0 rfl (lv_at hl 0 rfl) ?_
  have J1 : ∀ (H : Heap) (locs : List Loc) (ls : Array Slot), va_P (dC, dI) vwCl [] H → va_D A [] → va_S A s.heap H locs → lv_has ls 1 [(0, .int lp)] → W p l e (headSpec (Cond.code yX6_isLoop cX6_isLoop 1 (some .boolean) :: wAll) ({ frames := 0, cells := 0, slots := 0, locals := 0 })).room s m ([.int lp] : List Value).toArray below meth c H locs 0 0 Q (F0 m 14 ls [.int (f_X6_isLoop_j1_1 lp)]) := by
    intro H locs ls hP hD hS hl
    exact hh_retz hQ (rfl) (f_X6_isLoop_j1_1_z lp) hx hb hr hlocks hP hK hD hS dX6_isLoop_14
  refine lv_if_lt (tgt := 13) hx hb dX6_isLoop_1 (by decide) (fun h1 => ?_) (fun h1 => ?_)
  · skip
    refine lv_iconst (v := 0) hx hb dX6_isLoop_13 (by decide) ?_
    have e3 : (f_X6_isLoop_j1_1 lp) = (0 : Int32) := if_pos h1
    refine hh_seti (y := (f_X6_isLoop_j1_1 lp)) (if_pos h1) ?_
    exact J1 _ _ _ (hP) (hD) hS (lv_sub hl [0] rfl)
  · skip
    refine lv_iload_n hx hb dX6_isLoop_4 rfl (lv_at hl 0 rfl) ?_
    refine lv_iconst (v := 3) hx hb dX6_isLoop_5 (by decide) ?_
    refine lv_icmp_ge (tgt := 13) hx hb dX6_isLoop_6 (by decide) (fun h2 => ?_) (fun h2 => ?_)
    · skip
      refine lv_iconst (v := 0) hx hb dX6_isLoop_13 (by decide) ?_
      have e4 : (f_X6_isLoop_j1_1 lp) = (0 : Int32) := (if_neg h1).trans (if_pos h2)
      refine hh_seti (y := (f_X6_isLoop_j1_1 lp)) ((if_neg h1).trans (if_pos h2)) ?_
      exact J1 _ _ _ (hP) (hD) hS (lv_sub hl [0] rfl)
    · skip
      refine lv_iconst (v := 1) hx hb dX6_isLoop_9 (by decide) ?_
      refine lv_goto (tgt := 14) hx hb dX6_isLoop_10 (by decide) ?_
      have e5 : (f_X6_isLoop_j1_1 lp) = (1 : Int32) := (if_neg h1).trans (if_neg h2)
      refine hh_seti (y := (f_X6_isLoop_j1_1 lp)) ((if_neg h1).trans (if_neg h2)) ?_
      exact J1 _ _ _ (hP) (hD) hS (lv_sub hl [0] rfl)
theorem loop3 {n : Int32} (h : ¬ f_X6_isLoop_j1_1 n = (0 : Int32)) : n = 0 ∨ n = 1 ∨ n = 2 := by
  unfold f_X6_isLoop_j1_1 at h
  split at h
  · exact absurd rfl h
  · rename_i h1
    split at h
    · exact absurd rfl h
    · rename_i h2
      rw [fa_lt] at h1; rw [fa_le] at h2
      have e0 : (0 : Int32).toInt = 0 := rfl
      have e3 : (3 : Int32).toInt = 3 := rfl
      have e1 : (1 : Int32).toInt = 1 := rfl
      have e2 : (2 : Int32).toInt = 2 := rfl
      rw [fa_eq, fa_eq, fa_eq]
      omega
def f_X6_isIn_j1_1 (v lo hi : Int32) : Int32 := if v < lo then (0 : Int32) else (if hi < v then (0 : Int32) else (1 : Int32))
theorem f_X6_isIn_j1_1_z (v lo hi : Int32) : narrow .boolean (.int (f_X6_isIn_j1_1 v lo hi)) = .int (f_X6_isIn_j1_1 v lo hi) := by
  unfold f_X6_isIn_j1_1
  repeat' split
  all_goals rfl
set_option maxHeartbeats 4000000 in
set_option maxRecDepth 100000 in
theorem c_X6_isIn (l : Launch) (dC : Nat → ClassId) (dI : Nat → Nat → Nat) (cI cJ cZ cO : ClassId) (v lo hi : Int32) (sz : Nat)  : Met l yX6_isIn (Cond.code yX6_isIn cX6_isIn 3 (some .boolean) :: wAll) ({ frames := 0, cells := 0, slots := 0, locals := 0 }) (va_Pc [.int v, .int lo, .int hi] (gP (dC, dI) [] (tyG cI cJ cZ cO) sz gU)) (va_Qi (fun r (_ : Unit) => r = (f_X6_isIn_j1_1 v lo hi)) (fun _ t => gB (dC, dI) (va_A [] sz) [] (tyG cI cJ cZ cO) t) (va_A [] sz)) 0 0 (va_A [] sz) := by
  refine Met.ofW (cc := cX6_isIn) (maxL := 3) (ret := (some .boolean)) (by decide) rfl ?_
  intro p e s m args below meth c s₁ B hml hv
  obtain ⟨rfl, hsz, hP, hK, hD0, hG⟩ := hv
  have hx := B.exec
  have hb := B.bytes
  have hr := B.returns
  have hts := ht_of B.pre
  have hown : s.vm.findClass RX6 = some m.cls := findClass_of_methodNamed B.named
  have hlocks := B.notSynchronized
  subst hsz
  have hD := hD0.self (sz := s.heap.size)
  generalize hAe : va_A [] s.heap.size = A at hD ⊢
  have hA : ∀ q : Nat, s.heap.size ≤ q → A q := fun q h => by rw [← hAe]; exact Or.inr h
  have hS : va_S A s.heap s.heap [] := va_S.rf
  have hP : va_P (dC, dI) vwCl [] s.heap := hP
  have hl := lv_entry ([.int v, .int lo, .int hi]) (n := 3) (Nat.le_of_ble_eq_true rfl)
  rw [lg_entry_eq]
  generalize (lg_sl ([.int v, .int lo, .int hi]) ++ List.replicate (3 - (lg_sl ([.int v, .int lo, .int hi])).length) Slot.unset).toArray = ls at hl ⊢
  have hl : lv_has ls 3 [(0, .int v), (1, .int lo), (2, .int hi)] := hl
  refine hh_name (fun Q hQ => ?_)
  refine lv_iload_n hx hb dX6_isIn_0 rfl (lv_at hl 0 rfl) ?_
  refine lv_iload_n hx hb dX6_isIn_1 rfl (lv_at hl 1 rfl) ?_
  have J1 : ∀ (H : Heap) (locs : List Loc) (ls : Array Slot), va_P (dC, dI) vwCl [] H → va_D A [] → va_S A s.heap H locs → lv_has ls 3 [(0, .int v), (1, .int lo), (2, .int hi)] → W p l e (headSpec (Cond.code yX6_isIn cX6_isIn 3 (some .boolean) :: wAll) ({ frames := 0, cells := 0, slots := 0, locals := 0 })).room s m ([.int v, .int lo, .int hi] : List Value).toArray below meth c H locs 0 0 Q (F0 m 15 ls [.int (f_X6_isIn_j1_1 v lo hi)]) := by
    intro H locs ls hP hD hS hl
    exact hh_retz hQ (rfl) (f_X6_isIn_j1_1_z v lo hi) hx hb hr hlocks hP hK hD hS dX6_isIn_15
  refine lv_icmp_lt (tgt := 14) hx hb dX6_isIn_2 (by decide) (fun h1 => ?_) (fun h1 => ?_)
  · skip
    refine lv_iconst (v := 0) hx hb dX6_isIn_14 (by decide) ?_
    have e3 : (f_X6_isIn_j1_1 v lo hi) = (0 : Int32) := if_pos h1
    refine hh_seti (y := (f_X6_isIn_j1_1 v lo hi)) (if_pos h1) ?_
    exact J1 _ _ _ (hP) (hD) hS (lv_sub hl [0, 1, 2] rfl)
  · skip
    refine lv_iload_n hx hb dX6_isIn_5 rfl (lv_at hl 0 rfl) ?_
    refine lv_iload_n hx hb dX6_isIn_6 rfl (lv_at hl 2 rfl) ?_
    refine lv_icmp_gt (tgt := 14) hx hb dX6_isIn_7 (by decide) (fun h2 => ?_) (fun h2 => ?_)
    · skip
      refine lv_iconst (v := 0) hx hb dX6_isIn_14 (by decide) ?_
      have e4 : (f_X6_isIn_j1_1 v lo hi) = (0 : Int32) := (if_neg h1).trans (if_pos h2)
      refine hh_seti (y := (f_X6_isIn_j1_1 v lo hi)) ((if_neg h1).trans (if_pos h2)) ?_
      exact J1 _ _ _ (hP) (hD) hS (lv_sub hl [0, 1, 2] rfl)
    · skip
      refine lv_iconst (v := 1) hx hb dX6_isIn_10 (by decide) ?_
      refine lv_goto (tgt := 15) hx hb dX6_isIn_11 (by decide) ?_
      have e5 : (f_X6_isIn_j1_1 v lo hi) = (1 : Int32) := (if_neg h1).trans (if_neg h2)
      refine hh_seti (y := (f_X6_isIn_j1_1 v lo hi)) ((if_neg h1).trans (if_neg h2)) ?_
      exact J1 _ _ _ (hP) (hD) hS (lv_sub hl [0, 1, 2] rfl)
def f_X6_floor_j1_1 (v by1 : Int64) : Int64 := if ((v / by1) * by1) ≤ v then (v / by1) else ((v / by1) - (1 : Int64))
set_option maxHeartbeats 4000000 in
set_option maxRecDepth 100000 in
theorem c_X6_floor (l : Launch) (dC : Nat → ClassId) (dI : Nat → Nat → Nat) (cI cJ cZ cO : ClassId) (v by1 : Int64) (sz : Nat) (hby : ¬ by1 = 0) : Met l yX6_floor (Cond.code yX6_floor cX6_floor 6 (some .long) :: wAll) ({ frames := 0, cells := 0, slots := 0, locals := 0 }) (va_Pc [.long v, .long by1] (gP (dC, dI) [] (tyG cI cJ cZ cO) sz gU)) (va_Ql (fun r (_ : Unit) => r = (f_X6_floor_j1_1 v by1)) (fun _ t => gB (dC, dI) (va_A [] sz) [] (tyG cI cJ cZ cO) t) (va_A [] sz)) 0 0 (va_A [] sz) := by
  refine Met.ofW (cc := cX6_floor) (maxL := 6) (ret := (some .long)) (by decide) rfl ?_
  intro p e s m args below meth c s₁ B hml hv
  obtain ⟨rfl, hsz, hP, hK, hD0, hG⟩ := hv
  have hx := B.exec
  have hb := B.bytes
  have hr := B.returns
  have hts := ht_of B.pre
  have hown : s.vm.findClass RX6 = some m.cls := findClass_of_methodNamed B.named
  have hlocks := B.notSynchronized
  subst hsz
  have hD := hD0.self (sz := s.heap.size)
  generalize hAe : va_A [] s.heap.size = A at hD ⊢
  have hA : ∀ q : Nat, s.heap.size ≤ q → A q := fun q h => by rw [← hAe]; exact Or.inr h
  have hS : va_S A s.heap s.heap [] := va_S.rf
  have hP : va_P (dC, dI) vwCl [] s.heap := hP
  have hl := lv_entry ([.long v, .long by1]) (n := 6) (Nat.le_of_ble_eq_true rfl)
  rw [lg_entry_eq]
  generalize (lg_sl ([.long v, .long by1]) ++ List.replicate (6 - (lg_sl ([.long v, .long by1])).length) Slot.unset).toArray = ls at hl ⊢
  have hl : lv_has ls 6 [(0, .long v), (2, .long by1)] := hl
  refine hh_name (fun Q hQ => ?_)
  refine lv_lload_n hx hb dX6_floor_0 rfl (lv_at hl 0 rfl) ?_
  refine lv_lload_n hx hb dX6_floor_1 rfl (lv_at hl 1 rfl) ?_
  refine lv_ldiv hx hb dX6_floor_2 hby ?_
  refine lv_lstore (lv' := [(4, .long (v / by1)), (0, .long v), (2, .long by1)]) hx hb dX6_floor_3 hl (by decide) rfl (fun ls hl => ?_)
  refine lv_lload hx hb dX6_floor_5 (lv_at hl 0 rfl) ?_
  refine lv_lload_n hx hb dX6_floor_7 rfl (lv_at hl 2 rfl) ?_
  refine lv_lmul hx hb dX6_floor_8 ?_
  refine lv_lload_n hx hb dX6_floor_9 rfl (lv_at hl 1 rfl) ?_
  have J1 : ∀ (H : Heap) (locs : List Loc) (ls : Array Slot), va_P (dC, dI) vwCl [] H → va_D A [] → va_S A s.heap H locs → lv_has ls 6 [(4, .long (v / by1)), (0, .long v), (2, .long by1)] → W p l e (headSpec (Cond.code yX6_floor cX6_floor 6 (some .long) :: wAll) ({ frames := 0, cells := 0, slots := 0, locals := 0 })).room s m ([.long v, .long by1] : List Value).toArray below meth c H locs 0 0 Q (F0 m 23 ls [.long (f_X6_floor_j1_1 v by1)]) := by
    intro H locs ls hP hD hS hl
    exact hh_retl hQ (rfl) hx hb hr hlocks hP hK hD hS dX6_floor_23
  refine hh_cle (tgt := 21) hx hb dX6_floor_10 dX6_floor_11 (by decide) (fun h1 => ?_) (fun h1 => ?_)
  · skip
    refine lv_lload hx hb dX6_floor_21 (lv_at hl 0 rfl) ?_
    have e2 : (f_X6_floor_j1_1 v by1) = (v / by1) := if_pos h1
    refine hh_setl (y := (f_X6_floor_j1_1 v by1)) (if_pos h1) ?_
    exact J1 _ _ _ (hP) (hD) hS (lv_sub hl [0, 1, 2] rfl)
  · skip
    refine lv_lload hx hb dX6_floor_14 (lv_at hl 0 rfl) ?_
    refine lv_lconst (v := 1) hx hb dX6_floor_16 (by decide) ?_
    refine lv_lsub hx hb dX6_floor_17 ?_
    refine lv_goto (tgt := 23) hx hb dX6_floor_18 (by decide) ?_
    have e3 : (f_X6_floor_j1_1 v by1) = ((v / by1) - (1 : Int64)) := if_neg h1
    refine hh_setl (y := (f_X6_floor_j1_1 v by1)) (if_neg h1) ?_
    exact J1 _ _ _ (hP) (hD) hS (lv_sub hl [0, 1, 2] rfl)
def f_X6_within_j1_1 (v lo hi : Int64) : Int64 := if lo ≤ v then (if v ≤ hi then v else hi) else lo
set_option maxHeartbeats 4000000 in
set_option maxRecDepth 100000 in
theorem c_X6_within (l : Launch) (dC : Nat → ClassId) (dI : Nat → Nat → Nat) (cI cJ cZ cO : ClassId) (v lo hi : Int64) (sz : Nat)  : Met l yX6_within (Cond.code yX6_within cX6_within 6 (some .long) :: wAll) ({ frames := 0, cells := 0, slots := 0, locals := 0 }) (va_Pc [.long v, .long lo, .long hi] (gP (dC, dI) [] (tyG cI cJ cZ cO) sz gU)) (va_Ql (fun r (_ : Unit) => r = (f_X6_within_j1_1 v lo hi)) (fun _ t => gB (dC, dI) (va_A [] sz) [] (tyG cI cJ cZ cO) t) (va_A [] sz)) 0 0 (va_A [] sz) := by
  refine Met.ofW (cc := cX6_within) (maxL := 6) (ret := (some .long)) (by decide) rfl ?_
  intro p e s m args below meth c s₁ B hml hv
  obtain ⟨rfl, hsz, hP, hK, hD0, hG⟩ := hv
  have hx := B.exec
  have hb := B.bytes
  have hr := B.returns
  have hts := ht_of B.pre
  have hown : s.vm.findClass RX6 = some m.cls := findClass_of_methodNamed B.named
  have hlocks := B.notSynchronized
  subst hsz
  have hD := hD0.self (sz := s.heap.size)
  generalize hAe : va_A [] s.heap.size = A at hD ⊢
  have hA : ∀ q : Nat, s.heap.size ≤ q → A q := fun q h => by rw [← hAe]; exact Or.inr h
  have hS : va_S A s.heap s.heap [] := va_S.rf
  have hP : va_P (dC, dI) vwCl [] s.heap := hP
  have hl := lv_entry ([.long v, .long lo, .long hi]) (n := 6) (Nat.le_of_ble_eq_true rfl)
  rw [lg_entry_eq]
  generalize (lg_sl ([.long v, .long lo, .long hi]) ++ List.replicate (6 - (lg_sl ([.long v, .long lo, .long hi])).length) Slot.unset).toArray = ls at hl ⊢
  have hl : lv_has ls 6 [(0, .long v), (2, .long lo), (4, .long hi)] := hl
  refine hh_name (fun Q hQ => ?_)
  refine lv_lload_n hx hb dX6_within_0 rfl (lv_at hl 0 rfl) ?_
  refine lv_lload_n hx hb dX6_within_1 rfl (lv_at hl 1 rfl) ?_
  have J1 : ∀ (H : Heap) (locs : List Loc) (ls : Array Slot), va_P (dC, dI) vwCl [] H → va_D A [] → va_S A s.heap H locs → lv_has ls 6 [(0, .long v), (2, .long lo), (4, .long hi)] → W p l e (headSpec (Cond.code yX6_within cX6_within 6 (some .long) :: wAll) ({ frames := 0, cells := 0, slots := 0, locals := 0 })).room s m ([.long v, .long lo, .long hi] : List Value).toArray below meth c H locs 0 0 Q (F0 m 23 ls [.long (f_X6_within_j1_1 v lo hi)]) := by
    intro H locs ls hP hD hS hl
    exact hh_retl hQ (rfl) hx hb hr hlocks hP hK hD hS dX6_within_23
  refine hh_cge (tgt := 10) hx hb dX6_within_2 dX6_within_3 (by decide) (fun h1 => ?_) (fun h1 => ?_)
  · skip
    refine lv_lload_n hx hb dX6_within_10 rfl (lv_at hl 0 rfl) ?_
    refine lv_lload hx hb dX6_within_11 (lv_at hl 2 rfl) ?_
    refine hh_cle (tgt := 22) hx hb dX6_within_13 dX6_within_14 (by decide) (fun h2 => ?_) (fun h2 => ?_)
    · skip
      refine lv_lload_n hx hb dX6_within_22 rfl (lv_at hl 0 rfl) ?_
      have e3 : (f_X6_within_j1_1 v lo hi) = v := (if_pos h1).trans (if_pos h2)
      refine hh_setl (y := (f_X6_within_j1_1 v lo hi)) ((if_pos h1).trans (if_pos h2)) ?_
      exact J1 _ _ _ (hP) (hD) hS (lv_sub hl [0, 1, 2] rfl)
    · skip
      refine lv_lload hx hb dX6_within_17 (lv_at hl 2 rfl) ?_
      refine lv_goto (tgt := 23) hx hb dX6_within_19 (by decide) ?_
      have e4 : (f_X6_within_j1_1 v lo hi) = hi := (if_pos h1).trans (if_neg h2)
      refine hh_setl (y := (f_X6_within_j1_1 v lo hi)) ((if_pos h1).trans (if_neg h2)) ?_
      exact J1 _ _ _ (hP) (hD) hS (lv_sub hl [0, 1, 2] rfl)
  · skip
    refine lv_lload_n hx hb dX6_within_6 rfl (lv_at hl 1 rfl) ?_
    refine lv_goto (tgt := 23) hx hb dX6_within_7 (by decide) ?_
    have e5 : (f_X6_within_j1_1 v lo hi) = lo := if_neg h1
    refine hh_setl (y := (f_X6_within_j1_1 v lo hi)) (if_neg h1) ?_
    exact J1 _ _ _ (hP) (hD) hS (lv_sub hl [0, 1, 2] rfl)
def f_X6_areGains_j1_1 (np ni nd : Int32) : Int32 := if (f_X6_isIn_j1_1 np (-20000 : Int32) (20000 : Int32)) = (0 : Int32) then (0 : Int32) else (if (f_X6_isIn_j1_1 ni (-5000 : Int32) (5000 : Int32)) = (0 : Int32) then (0 : Int32) else (if (f_X6_isIn_j1_1 nd (-50000 : Int32) (50000 : Int32)) = (0 : Int32) then (0 : Int32) else (1 : Int32)))
theorem f_X6_areGains_j1_1_z (np ni nd : Int32) : narrow .boolean (.int (f_X6_areGains_j1_1 np ni nd)) = .int (f_X6_areGains_j1_1 np ni nd) := by
  unfold f_X6_areGains_j1_1
  repeat' split
  all_goals rfl
set_option maxHeartbeats 4000000 in
set_option maxRecDepth 100000 in
theorem c_X6_areGains (l : Launch) (dC : Nat → ClassId) (dI : Nat → Nat → Nat) (cI cJ cZ cO : ClassId) (np ni nd : Int32) (sz : Nat)  : Met l yX6_areGains (Cond.code yX6_areGains cX6_areGains 3 (some .boolean) :: wAll) ({ frames := 1, cells := 0, slots := 0, locals := 22 }) (va_Pc [.int np, .int ni, .int nd] (gP (dC, dI) [] (tyG cI cJ cZ cO) sz gU)) (va_Qi (fun r (_ : Unit) => r = (f_X6_areGains_j1_1 np ni nd)) (fun _ t => gB (dC, dI) (va_A [] sz) [] (tyG cI cJ cZ cO) t) (va_A [] sz)) 0 0 (va_A [] sz) := by
  refine Met.ofW (cc := cX6_areGains) (maxL := 3) (ret := (some .boolean)) (by decide) rfl ?_
  intro p e s m args below meth c s₁ B hml hv
  obtain ⟨rfl, hsz, hP, hK, hD0, hG⟩ := hv
  have hx := B.exec
  have hb := B.bytes
  have hr := B.returns
  have hts := ht_of B.pre
  have hown : s.vm.findClass RX6 = some m.cls := findClass_of_methodNamed B.named
  have hlocks := B.notSynchronized
  subst hsz
  have hD := hD0.self (sz := s.heap.size)
  generalize hAe : va_A [] s.heap.size = A at hD ⊢
  have hA : ∀ q : Nat, s.heap.size ≤ q → A q := fun q h => by rw [← hAe]; exact Or.inr h
  have hS : va_S A s.heap s.heap [] := va_S.rf
  have hP : va_P (dC, dI) vwCl [] s.heap := hP
  have hl := lv_entry ([.int np, .int ni, .int nd]) (n := 3) (Nat.le_of_ble_eq_true rfl)
  rw [lg_entry_eq]
  generalize (lg_sl ([.int np, .int ni, .int nd]) ++ List.replicate (3 - (lg_sl ([.int np, .int ni, .int nd])).length) Slot.unset).toArray = ls at hl ⊢
  have hl : lv_has ls 3 [(0, .int np), (1, .int ni), (2, .int nd)] := hl
  refine hh_name (fun Q hQ => ?_)
  refine lv_iload_n hx hb dX6_areGains_0 rfl (lv_at hl 0 rfl) ?_
  refine lv_sipush (v := -20000) hx hb dX6_areGains_1 (by decide) ?_
  refine lv_sipush (v := 20000) hx hb dX6_areGains_4 (by decide) ?_
  refine hh_calli (w2 := []) (va_runS (As := [.int np, .int (-20000 : Int32), .int (20000 : Int32)]) (rest := []) ⟨hx, hb, hml, hown, hts⟩ (c_X6_isIn l dC dI cI cJ cZ cO np (-20000 : Int32) (20000 : Int32) _) (va_cwS 3 hts (gd_S wd_4_192 wd_4_193 wd_1_7 wd_4_194) rfl rfl rfl (by decide +kernel) ⟨Nat.le_of_ble_eq_true rfl, Nat.le_of_ble_eq_true rfl⟩) (hh_pS gU_c (fun _ _ _ => trivial) hK hP hD [] rfl rfl) rfl rfl hl.1 rfl (lv_room (Nat.le_of_ble_eq_true rfl)) dX6_areGains_7 ⟨Nat.le_of_ble_eq_true rfl, Nat.le_of_ble_eq_true rfl⟩) hP hD hS hA [] [] [] rfl rfl rfl (by decide) rfl rfl (fun H locs hP hD hS => ?_)
  have J1 : ∀ (H : Heap) (locs : List Loc) (ls : Array Slot), va_P (dC, dI) vwCl [] H → va_D A [] → va_S A s.heap H locs → lv_has ls 3 [(0, .int np), (1, .int ni), (2, .int nd)] → W p l e (headSpec (Cond.code yX6_areGains cX6_areGains 3 (some .boolean) :: wAll) ({ frames := 1, cells := 0, slots := 0, locals := 22 })).room s m ([.int np, .int ni, .int nd] : List Value).toArray below meth c H locs 0 0 Q (F0 m 42 ls [.int (f_X6_areGains_j1_1 np ni nd)]) := by
    intro H locs ls hP hD hS hl
    exact hh_retz hQ (rfl) (f_X6_areGains_j1_1_z np ni nd) hx hb hr hlocks hP hK hD hS dX6_areGains_42
  refine lv_if_eq (tgt := 41) hx hb dX6_areGains_10 (by decide) (fun h1 => ?_) (fun h1 => ?_)
  · skip
    refine lv_iconst (v := 0) hx hb dX6_areGains_41 (by decide) ?_
    have e4 : (f_X6_areGains_j1_1 np ni nd) = (0 : Int32) := if_pos h1
    refine hh_seti (y := (f_X6_areGains_j1_1 np ni nd)) (if_pos h1) ?_
    exact J1 _ _ _ (hP) (hD) hS (lv_sub hl [0, 1, 2] rfl)
  · skip
    refine lv_iload_n hx hb dX6_areGains_13 rfl (lv_at hl 1 rfl) ?_
    refine lv_sipush (v := -5000) hx hb dX6_areGains_14 (by decide) ?_
    refine lv_sipush (v := 5000) hx hb dX6_areGains_17 (by decide) ?_
    refine hh_calli (w2 := []) (va_runS (As := [.int ni, .int (-5000 : Int32), .int (5000 : Int32)]) (rest := []) ⟨hx, hb, hml, hown, hts⟩ (c_X6_isIn l dC dI cI cJ cZ cO ni (-5000 : Int32) (5000 : Int32) _) (va_cwS 3 hts (gd_S wd_4_192 wd_4_193 wd_1_7 wd_4_194) rfl rfl rfl (by decide +kernel) ⟨Nat.le_of_ble_eq_true rfl, Nat.le_of_ble_eq_true rfl⟩) (hh_pS gU_c (fun _ _ _ => trivial) hK hP hD [] rfl rfl) rfl rfl hl.1 rfl (lv_room (Nat.le_of_ble_eq_true rfl)) dX6_areGains_20 ⟨Nat.le_of_ble_eq_true rfl, Nat.le_of_ble_eq_true rfl⟩) hP hD hS hA [] [] [] rfl rfl rfl (by decide) rfl rfl (fun H locs hP hD hS => ?_)
    refine lv_if_eq (tgt := 41) hx hb dX6_areGains_23 (by decide) (fun h2 => ?_) (fun h2 => ?_)
    · skip
      refine lv_iconst (v := 0) hx hb dX6_areGains_41 (by decide) ?_
      have e5 : (f_X6_areGains_j1_1 np ni nd) = (0 : Int32) := (if_neg h1).trans (if_pos h2)
      refine hh_seti (y := (f_X6_areGains_j1_1 np ni nd)) ((if_neg h1).trans (if_pos h2)) ?_
      exact J1 _ _ _ (hP) (hD) hS (lv_sub hl [0, 1, 2] rfl)
    · skip
      refine lv_iload_n hx hb dX6_areGains_26 rfl (lv_at hl 2 rfl) ?_
      refine lv_ldc (v := -50000) hx hb hown (hts _ wd_4_213) dX6_areGains_27 ?_
      refine lv_ldc (v := 50000) hx hb hown (hts _ wd_4_214) dX6_areGains_29 ?_
      refine hh_calli (w2 := []) (va_runS (As := [.int nd, .int (-50000 : Int32), .int (50000 : Int32)]) (rest := []) ⟨hx, hb, hml, hown, hts⟩ (c_X6_isIn l dC dI cI cJ cZ cO nd (-50000 : Int32) (50000 : Int32) _) (va_cwS 3 hts (gd_S wd_4_192 wd_4_193 wd_1_7 wd_4_194) rfl rfl rfl (by decide +kernel) ⟨Nat.le_of_ble_eq_true rfl, Nat.le_of_ble_eq_true rfl⟩) (hh_pS gU_c (fun _ _ _ => trivial) hK hP hD [] rfl rfl) rfl rfl hl.1 rfl (lv_room (Nat.le_of_ble_eq_true rfl)) dX6_areGains_31 ⟨Nat.le_of_ble_eq_true rfl, Nat.le_of_ble_eq_true rfl⟩) hP hD hS hA [] [] [] rfl rfl rfl (by decide) rfl rfl (fun H locs hP hD hS => ?_)
      refine lv_if_eq (tgt := 41) hx hb dX6_areGains_34 (by decide) (fun h3 => ?_) (fun h3 => ?_)
      · skip
        refine lv_iconst (v := 0) hx hb dX6_areGains_41 (by decide) ?_
        have e6 : (f_X6_areGains_j1_1 np ni nd) = (0 : Int32) := (if_neg h1).trans ((if_neg h2).trans (if_pos h3))
        refine hh_seti (y := (f_X6_areGains_j1_1 np ni nd)) ((if_neg h1).trans ((if_neg h2).trans (if_pos h3))) ?_
        exact J1 _ _ _ (hP) (hD) hS (lv_sub hl [0, 1, 2] rfl)
      · skip
        refine lv_iconst (v := 1) hx hb dX6_areGains_37 (by decide) ?_
        refine lv_goto (tgt := 42) hx hb dX6_areGains_38 (by decide) ?_
        have e7 : (f_X6_areGains_j1_1 np ni nd) = (1 : Int32) := (if_neg h1).trans ((if_neg h2).trans (if_neg h3))
        refine hh_seti (y := (f_X6_areGains_j1_1 np ni nd)) ((if_neg h1).trans ((if_neg h2).trans (if_neg h3))) ?_
        exact J1 _ _ _ (hP) (hD) hS (lv_sub hl [0, 1, 2] rfl)
def f_X6_error_r (m_measure m_setpoint : Nat → Int64) (n : Int32) : Int64 := ((m_setpoint n.toNatClampNeg) - (m_measure n.toNatClampNeg))
set_option maxHeartbeats 4000000 in
set_option maxRecDepth 100000 in
theorem c_X6_error (l : Launch) (dC : Nat → ClassId) (dI : Nat → Nat → Nat) (cI cJ cZ cO : ClassId) (adM : Nat) (ms_samples : Int32) (q_a1 q_a2 q_b q_deadTime q_load q_measure q_before q_past q_gain q_low q_high q_setpoint q_integral q_guard q_share q_mode q_hand q_follows q_hasMaster q_isStarved q_held q_sum q_lastError q_lastRate q_goesOn q_points q_at q_then q_experiment q_center q_height q_band q_isUp q_gone q_risings q_second q_greatest q_least q_period q_swing : Nat) (ms_thrown : Int32) (m_measure m_setpoint : Nat → Int64) (n : Int32) (sz : Nat) (hn3 : n = 0 ∨ n = 1 ∨ n = 2) : Met l yX6_error (Cond.code yX6_error cX6_error 2 (some .long) :: wAll) ({ frames := 0, cells := 0, slots := 0, locals := 0 }) (va_Pc [.ref adM, .int n] (gP (dC, dI) [zX6 adM ms_samples q_a1 q_a2 q_b q_deadTime q_load q_measure q_before q_past q_gain q_low q_high q_setpoint q_integral q_guard q_share q_mode q_hand q_follows q_hasMaster q_isStarved q_held q_sum q_lastError q_lastRate q_goesOn q_points q_at q_then q_experiment q_center q_height q_band q_isUp q_gone q_risings q_second q_greatest q_least q_period q_swing ms_thrown, zAJ cJ q_measure 3 m_measure, zAJ cJ q_setpoint 3 m_setpoint] (tyG cI cJ cZ cO) sz gU)) (va_Ql (fun r (_ : Unit) => r = (f_X6_error_r m_measure m_setpoint n)) (fun _ t => gB (dC, dI) (va_A [zX6 adM ms_samples q_a1 q_a2 q_b q_deadTime q_load q_measure q_before q_past q_gain q_low q_high q_setpoint q_integral q_guard q_share q_mode q_hand q_follows q_hasMaster q_isStarved q_held q_sum q_lastError q_lastRate q_goesOn q_points q_at q_then q_experiment q_center q_height q_band q_isUp q_gone q_risings q_second q_greatest q_least q_period q_swing ms_thrown, zAJ cJ q_measure 3 m_measure, zAJ cJ q_setpoint 3 m_setpoint] sz) [zX6 adM ms_samples q_a1 q_a2 q_b q_deadTime q_load q_measure q_before q_past q_gain q_low q_high q_setpoint q_integral q_guard q_share q_mode q_hand q_follows q_hasMaster q_isStarved q_held q_sum q_lastError q_lastRate q_goesOn q_points q_at q_then q_experiment q_center q_height q_band q_isUp q_gone q_risings q_second q_greatest q_least q_period q_swing ms_thrown, zAJ cJ q_measure 3 m_measure, zAJ cJ q_setpoint 3 m_setpoint] (tyG cI cJ cZ cO) t) (va_A [zX6 adM ms_samples q_a1 q_a2 q_b q_deadTime q_load q_measure q_before q_past q_gain q_low q_high q_setpoint q_integral q_guard q_share q_mode q_hand q_follows q_hasMaster q_isStarved q_held q_sum q_lastError q_lastRate q_goesOn q_points q_at q_then q_experiment q_center q_height q_band q_isUp q_gone q_risings q_second q_greatest q_least q_period q_swing ms_thrown, zAJ cJ q_measure 3 m_measure, zAJ cJ q_setpoint 3 m_setpoint] sz)) 0 0 (va_A [zX6 adM ms_samples q_a1 q_a2 q_b q_deadTime q_load q_measure q_before q_past q_gain q_low q_high q_setpoint q_integral q_guard q_share q_mode q_hand q_follows q_hasMaster q_isStarved q_held q_sum q_lastError q_lastRate q_goesOn q_points q_at q_then q_experiment q_center q_height q_band q_isUp q_gone q_risings q_second q_greatest q_least q_period q_swing ms_thrown, zAJ cJ q_measure 3 m_measure, zAJ cJ q_setpoint 3 m_setpoint] sz) := by
  refine Met.ofW (cc := cX6_error) (maxL := 2) (ret := (some .long)) (by decide) rfl ?_
  intro p e s m args below meth c s₁ B hml hv
  obtain ⟨rfl, hsz, hP, hK, hD0, hG⟩ := hv
  have hx := B.exec
  have hb := B.bytes
  have hr := B.returns
  have hts := ht_of B.pre
  have hown : s.vm.findClass RX6 = some m.cls := findClass_of_methodNamed B.named
  have hlocks := B.notSynchronized
  subst hsz
  have hD := hD0.self (sz := s.heap.size)
  generalize hAe : va_A [zX6 adM ms_samples q_a1 q_a2 q_b q_deadTime q_load q_measure q_before q_past q_gain q_low q_high q_setpoint q_integral q_guard q_share q_mode q_hand q_follows q_hasMaster q_isStarved q_held q_sum q_lastError q_lastRate q_goesOn q_points q_at q_then q_experiment q_center q_height q_band q_isUp q_gone q_risings q_second q_greatest q_least q_period q_swing ms_thrown, zAJ cJ q_measure 3 m_measure, zAJ cJ q_setpoint 3 m_setpoint] s.heap.size = A at hD ⊢
  have hA : ∀ q : Nat, s.heap.size ≤ q → A q := fun q h => by rw [← hAe]; exact Or.inr h
  have hS : va_S A s.heap s.heap [] := va_S.rf
  have hP : va_P (dC, dI) vwCl [zX6 adM ms_samples q_a1 q_a2 q_b q_deadTime q_load q_measure q_before q_past q_gain q_low q_high q_setpoint q_integral q_guard q_share q_mode q_hand q_follows q_hasMaster q_isStarved q_held q_sum q_lastError q_lastRate q_goesOn q_points q_at q_then q_experiment q_center q_height q_band q_isUp q_gone q_risings q_second q_greatest q_least q_period q_swing ms_thrown, zAJ cJ q_measure 3 m_measure, zAJ cJ q_setpoint 3 m_setpoint] s.heap := hP
  have hl := lv_entry ([.ref adM, .int n]) (n := 2) (Nat.le_of_ble_eq_true rfl)
  rw [lg_entry_eq]
  generalize (lg_sl ([.ref adM, .int n]) ++ List.replicate (2 - (lg_sl ([.ref adM, .int n])).length) Slot.unset).toArray = ls at hl ⊢
  have hl : lv_has ls 2 [(0, .ref adM), (1, .int n)] := hl
  refine hh_name (fun Q hQ => ?_)
  refine lv_aload_n hx hb dX6_error_0 rfl (lv_at hl 0 rfl) ?_
  refine va_get (D := (dC, dI)) (ci := 6) (v := .ref q_setpoint) (C := RX6) (T := TX6) (N := 42) hx hb hts inW_X6 hown hK hP 0 rfl rfl 12 (by decide) (hts _ wd_4_68) (fun _ h9 => h9) rfl dX6_error_1 ?_
  refine lv_iload_n hx hb dX6_error_4 rfl (lv_at hl 1 rfl) ?_
  refine va_lald hx hb hK hP 2 1 rfl rfl (i := n) (ix_of (P := fun n => vp_in n 3) (hn3) (ix_d (by decide)) (ix_d (by decide)) (ix_d (by decide))) dX6_error_5 ?_
  refine lv_aload_n hx hb dX6_error_6 rfl (lv_at hl 0 rfl) ?_
  refine va_get (D := (dC, dI)) (ci := 6) (v := .ref q_measure) (C := RX6) (T := TX6) (N := 42) hx hb hts inW_X6 hown hK hP 0 rfl rfl 6 (by decide) (hts _ wd_4_62) (fun _ h9 => h9) rfl dX6_error_7 ?_
  refine lv_iload_n hx hb dX6_error_10 rfl (lv_at hl 1 rfl) ?_
  refine va_lald hx hb hK hP 1 1 rfl rfl (i := n) (ix_of (P := fun n => vp_in n 3) (hn3) (ix_d (by decide)) (ix_d (by decide)) (ix_d (by decide))) dX6_error_11 ?_
  refine lv_lsub hx hb dX6_error_12 ?_
  exact hh_retl hQ (rfl) hx hb hr hlocks hP hK hD hS dX6_error_13
def f_X6_rate_r (m_measure m_before : Nat → Int64) (n : Int32) : Int64 := ((m_before n.toNatClampNeg) - (m_measure n.toNatClampNeg))
set_option maxHeartbeats 4000000 in
set_option maxRecDepth 100000 in
theorem c_X6_rate (l : Launch) (dC : Nat → ClassId) (dI : Nat → Nat → Nat) (cI cJ cZ cO : ClassId) (adM : Nat) (ms_samples : Int32) (q_a1 q_a2 q_b q_deadTime q_load q_measure q_before q_past q_gain q_low q_high q_setpoint q_integral q_guard q_share q_mode q_hand q_follows q_hasMaster q_isStarved q_held q_sum q_lastError q_lastRate q_goesOn q_points q_at q_then q_experiment q_center q_height q_band q_isUp q_gone q_risings q_second q_greatest q_least q_period q_swing : Nat) (ms_thrown : Int32) (m_measure m_before : Nat → Int64) (n : Int32) (sz : Nat) (hn3 : n = 0 ∨ n = 1 ∨ n = 2) : Met l yX6_rate (Cond.code yX6_rate cX6_rate 2 (some .long) :: wAll) ({ frames := 0, cells := 0, slots := 0, locals := 0 }) (va_Pc [.ref adM, .int n] (gP (dC, dI) [zX6 adM ms_samples q_a1 q_a2 q_b q_deadTime q_load q_measure q_before q_past q_gain q_low q_high q_setpoint q_integral q_guard q_share q_mode q_hand q_follows q_hasMaster q_isStarved q_held q_sum q_lastError q_lastRate q_goesOn q_points q_at q_then q_experiment q_center q_height q_band q_isUp q_gone q_risings q_second q_greatest q_least q_period q_swing ms_thrown, zAJ cJ q_measure 3 m_measure, zAJ cJ q_before 3 m_before] (tyG cI cJ cZ cO) sz gU)) (va_Ql (fun r (_ : Unit) => r = (f_X6_rate_r m_measure m_before n)) (fun _ t => gB (dC, dI) (va_A [zX6 adM ms_samples q_a1 q_a2 q_b q_deadTime q_load q_measure q_before q_past q_gain q_low q_high q_setpoint q_integral q_guard q_share q_mode q_hand q_follows q_hasMaster q_isStarved q_held q_sum q_lastError q_lastRate q_goesOn q_points q_at q_then q_experiment q_center q_height q_band q_isUp q_gone q_risings q_second q_greatest q_least q_period q_swing ms_thrown, zAJ cJ q_measure 3 m_measure, zAJ cJ q_before 3 m_before] sz) [zX6 adM ms_samples q_a1 q_a2 q_b q_deadTime q_load q_measure q_before q_past q_gain q_low q_high q_setpoint q_integral q_guard q_share q_mode q_hand q_follows q_hasMaster q_isStarved q_held q_sum q_lastError q_lastRate q_goesOn q_points q_at q_then q_experiment q_center q_height q_band q_isUp q_gone q_risings q_second q_greatest q_least q_period q_swing ms_thrown, zAJ cJ q_measure 3 m_measure, zAJ cJ q_before 3 m_before] (tyG cI cJ cZ cO) t) (va_A [zX6 adM ms_samples q_a1 q_a2 q_b q_deadTime q_load q_measure q_before q_past q_gain q_low q_high q_setpoint q_integral q_guard q_share q_mode q_hand q_follows q_hasMaster q_isStarved q_held q_sum q_lastError q_lastRate q_goesOn q_points q_at q_then q_experiment q_center q_height q_band q_isUp q_gone q_risings q_second q_greatest q_least q_period q_swing ms_thrown, zAJ cJ q_measure 3 m_measure, zAJ cJ q_before 3 m_before] sz)) 0 0 (va_A [zX6 adM ms_samples q_a1 q_a2 q_b q_deadTime q_load q_measure q_before q_past q_gain q_low q_high q_setpoint q_integral q_guard q_share q_mode q_hand q_follows q_hasMaster q_isStarved q_held q_sum q_lastError q_lastRate q_goesOn q_points q_at q_then q_experiment q_center q_height q_band q_isUp q_gone q_risings q_second q_greatest q_least q_period q_swing ms_thrown, zAJ cJ q_measure 3 m_measure, zAJ cJ q_before 3 m_before] sz) := by
  refine Met.ofW (cc := cX6_rate) (maxL := 2) (ret := (some .long)) (by decide) rfl ?_
  intro p e s m args below meth c s₁ B hml hv
  obtain ⟨rfl, hsz, hP, hK, hD0, hG⟩ := hv
  have hx := B.exec
  have hb := B.bytes
  have hr := B.returns
  have hts := ht_of B.pre
  have hown : s.vm.findClass RX6 = some m.cls := findClass_of_methodNamed B.named
  have hlocks := B.notSynchronized
  subst hsz
  have hD := hD0.self (sz := s.heap.size)
  generalize hAe : va_A [zX6 adM ms_samples q_a1 q_a2 q_b q_deadTime q_load q_measure q_before q_past q_gain q_low q_high q_setpoint q_integral q_guard q_share q_mode q_hand q_follows q_hasMaster q_isStarved q_held q_sum q_lastError q_lastRate q_goesOn q_points q_at q_then q_experiment q_center q_height q_band q_isUp q_gone q_risings q_second q_greatest q_least q_period q_swing ms_thrown, zAJ cJ q_measure 3 m_measure, zAJ cJ q_before 3 m_before] s.heap.size = A at hD ⊢
  have hA : ∀ q : Nat, s.heap.size ≤ q → A q := fun q h => by rw [← hAe]; exact Or.inr h
  have hS : va_S A s.heap s.heap [] := va_S.rf
  have hP : va_P (dC, dI) vwCl [zX6 adM ms_samples q_a1 q_a2 q_b q_deadTime q_load q_measure q_before q_past q_gain q_low q_high q_setpoint q_integral q_guard q_share q_mode q_hand q_follows q_hasMaster q_isStarved q_held q_sum q_lastError q_lastRate q_goesOn q_points q_at q_then q_experiment q_center q_height q_band q_isUp q_gone q_risings q_second q_greatest q_least q_period q_swing ms_thrown, zAJ cJ q_measure 3 m_measure, zAJ cJ q_before 3 m_before] s.heap := hP
  have hl := lv_entry ([.ref adM, .int n]) (n := 2) (Nat.le_of_ble_eq_true rfl)
  rw [lg_entry_eq]
  generalize (lg_sl ([.ref adM, .int n]) ++ List.replicate (2 - (lg_sl ([.ref adM, .int n])).length) Slot.unset).toArray = ls at hl ⊢
  have hl : lv_has ls 2 [(0, .ref adM), (1, .int n)] := hl
  refine hh_name (fun Q hQ => ?_)
  refine lv_aload_n hx hb dX6_rate_0 rfl (lv_at hl 0 rfl) ?_
  refine va_get (D := (dC, dI)) (ci := 6) (v := .ref q_before) (C := RX6) (T := TX6) (N := 42) hx hb hts inW_X6 hown hK hP 0 rfl rfl 7 (by decide) (hts _ wd_4_63) (fun _ h9 => h9) rfl dX6_rate_1 ?_
  refine lv_iload_n hx hb dX6_rate_4 rfl (lv_at hl 1 rfl) ?_
  refine va_lald hx hb hK hP 2 1 rfl rfl (i := n) (ix_of (P := fun n => vp_in n 3) (hn3) (ix_d (by decide)) (ix_d (by decide)) (ix_d (by decide))) dX6_rate_5 ?_
  refine lv_aload_n hx hb dX6_rate_6 rfl (lv_at hl 0 rfl) ?_
  refine va_get (D := (dC, dI)) (ci := 6) (v := .ref q_measure) (C := RX6) (T := TX6) (N := 42) hx hb hts inW_X6 hown hK hP 0 rfl rfl 6 (by decide) (hts _ wd_4_62) (fun _ h9 => h9) rfl dX6_rate_7 ?_
  refine lv_iload_n hx hb dX6_rate_10 rfl (lv_at hl 1 rfl) ?_
  refine va_lald hx hb hK hP 1 1 rfl rfl (i := n) (ix_of (P := fun n => vp_in n 3) (hn3) (ix_d (by decide)) (ix_d (by decide)) (ix_d (by decide))) dX6_rate_11 ?_
  refine lv_lsub hx hb dX6_rate_12 ?_
  exact hh_retl hQ (rfl) hx hb hr hlocks hP hK hD hS dX6_rate_13
def f_X6_latest_r (m_past : Nat → Int64) (n : Int32) : Int64 := (m_past ((11 : Int32) * n).toNatClampNeg)
set_option maxHeartbeats 4000000 in
set_option maxRecDepth 100000 in
theorem c_X6_latest (l : Launch) (dC : Nat → ClassId) (dI : Nat → Nat → Nat) (cI cJ cZ cO : ClassId) (adM : Nat) (ms_samples : Int32) (q_a1 q_a2 q_b q_deadTime q_load q_measure q_before q_past q_gain q_low q_high q_setpoint q_integral q_guard q_share q_mode q_hand q_follows q_hasMaster q_isStarved q_held q_sum q_lastError q_lastRate q_goesOn q_points q_at q_then q_experiment q_center q_height q_band q_isUp q_gone q_risings q_second q_greatest q_least q_period q_swing : Nat) (ms_thrown : Int32) (m_past : Nat → Int64) (n : Int32) (sz : Nat) (hn3 : n = 0 ∨ n = 1 ∨ n = 2) : Met l yX6_latest (Cond.code yX6_latest cX6_latest 2 (some .long) :: wAll) ({ frames := 0, cells := 0, slots := 0, locals := 0 }) (va_Pc [.ref adM, .int n] (gP (dC, dI) [zX6 adM ms_samples q_a1 q_a2 q_b q_deadTime q_load q_measure q_before q_past q_gain q_low q_high q_setpoint q_integral q_guard q_share q_mode q_hand q_follows q_hasMaster q_isStarved q_held q_sum q_lastError q_lastRate q_goesOn q_points q_at q_then q_experiment q_center q_height q_band q_isUp q_gone q_risings q_second q_greatest q_least q_period q_swing ms_thrown, zAJ cJ q_past 33 m_past] (tyG cI cJ cZ cO) sz gU)) (va_Ql (fun r (_ : Unit) => r = (f_X6_latest_r m_past n)) (fun _ t => gB (dC, dI) (va_A [zX6 adM ms_samples q_a1 q_a2 q_b q_deadTime q_load q_measure q_before q_past q_gain q_low q_high q_setpoint q_integral q_guard q_share q_mode q_hand q_follows q_hasMaster q_isStarved q_held q_sum q_lastError q_lastRate q_goesOn q_points q_at q_then q_experiment q_center q_height q_band q_isUp q_gone q_risings q_second q_greatest q_least q_period q_swing ms_thrown, zAJ cJ q_past 33 m_past] sz) [zX6 adM ms_samples q_a1 q_a2 q_b q_deadTime q_load q_measure q_before q_past q_gain q_low q_high q_setpoint q_integral q_guard q_share q_mode q_hand q_follows q_hasMaster q_isStarved q_held q_sum q_lastError q_lastRate q_goesOn q_points q_at q_then q_experiment q_center q_height q_band q_isUp q_gone q_risings q_second q_greatest q_least q_period q_swing ms_thrown, zAJ cJ q_past 33 m_past] (tyG cI cJ cZ cO) t) (va_A [zX6 adM ms_samples q_a1 q_a2 q_b q_deadTime q_load q_measure q_before q_past q_gain q_low q_high q_setpoint q_integral q_guard q_share q_mode q_hand q_follows q_hasMaster q_isStarved q_held q_sum q_lastError q_lastRate q_goesOn q_points q_at q_then q_experiment q_center q_height q_band q_isUp q_gone q_risings q_second q_greatest q_least q_period q_swing ms_thrown, zAJ cJ q_past 33 m_past] sz)) 0 0 (va_A [zX6 adM ms_samples q_a1 q_a2 q_b q_deadTime q_load q_measure q_before q_past q_gain q_low q_high q_setpoint q_integral q_guard q_share q_mode q_hand q_follows q_hasMaster q_isStarved q_held q_sum q_lastError q_lastRate q_goesOn q_points q_at q_then q_experiment q_center q_height q_band q_isUp q_gone q_risings q_second q_greatest q_least q_period q_swing ms_thrown, zAJ cJ q_past 33 m_past] sz) := by
  refine Met.ofW (cc := cX6_latest) (maxL := 2) (ret := (some .long)) (by decide) rfl ?_
  intro p e s m args below meth c s₁ B hml hv
  obtain ⟨rfl, hsz, hP, hK, hD0, hG⟩ := hv
  have hx := B.exec
  have hb := B.bytes
  have hr := B.returns
  have hts := ht_of B.pre
  have hown : s.vm.findClass RX6 = some m.cls := findClass_of_methodNamed B.named
  have hlocks := B.notSynchronized
  subst hsz
  have hD := hD0.self (sz := s.heap.size)
  generalize hAe : va_A [zX6 adM ms_samples q_a1 q_a2 q_b q_deadTime q_load q_measure q_before q_past q_gain q_low q_high q_setpoint q_integral q_guard q_share q_mode q_hand q_follows q_hasMaster q_isStarved q_held q_sum q_lastError q_lastRate q_goesOn q_points q_at q_then q_experiment q_center q_height q_band q_isUp q_gone q_risings q_second q_greatest q_least q_period q_swing ms_thrown, zAJ cJ q_past 33 m_past] s.heap.size = A at hD ⊢
  have hA : ∀ q : Nat, s.heap.size ≤ q → A q := fun q h => by rw [← hAe]; exact Or.inr h
  have hS : va_S A s.heap s.heap [] := va_S.rf
  have hP : va_P (dC, dI) vwCl [zX6 adM ms_samples q_a1 q_a2 q_b q_deadTime q_load q_measure q_before q_past q_gain q_low q_high q_setpoint q_integral q_guard q_share q_mode q_hand q_follows q_hasMaster q_isStarved q_held q_sum q_lastError q_lastRate q_goesOn q_points q_at q_then q_experiment q_center q_height q_band q_isUp q_gone q_risings q_second q_greatest q_least q_period q_swing ms_thrown, zAJ cJ q_past 33 m_past] s.heap := hP
  have hl := lv_entry ([.ref adM, .int n]) (n := 2) (Nat.le_of_ble_eq_true rfl)
  rw [lg_entry_eq]
  generalize (lg_sl ([.ref adM, .int n]) ++ List.replicate (2 - (lg_sl ([.ref adM, .int n])).length) Slot.unset).toArray = ls at hl ⊢
  have hl : lv_has ls 2 [(0, .ref adM), (1, .int n)] := hl
  refine hh_name (fun Q hQ => ?_)
  refine lv_aload_n hx hb dX6_latest_0 rfl (lv_at hl 0 rfl) ?_
  refine va_get (D := (dC, dI)) (ci := 6) (v := .ref q_past) (C := RX6) (T := TX6) (N := 42) hx hb hts inW_X6 hown hK hP 0 rfl rfl 8 (by decide) (hts _ wd_4_64) (fun _ h9 => h9) rfl dX6_latest_1 ?_
  refine lv_bipush (v := 11) hx hb dX6_latest_4 (by decide) ?_
  refine lv_iload_n hx hb dX6_latest_6 rfl (lv_at hl 1 rfl) ?_
  refine lv_imul hx hb dX6_latest_7 ?_
  refine va_lald hx hb hK hP 1 1 rfl rfl (i := ((11 : Int32) * n)) (ix_of (P := fun n => vp_in ((11 : Int32) * n) 33) (hn3) (ix_d (by decide)) (ix_d (by decide)) (ix_d (by decide))) dX6_latest_8 ?_
  exact hh_retl hQ (rfl) hx hb hr hlocks hP hK hD hS dX6_latest_9
def f_X6_changes_m_gain (m_gain : Nat → Int64) (n : Int32) (np ni nd : Int64) : Nat → Int64 := (vp_updL (vp_updL (vp_updL m_gain ((3 : Int32) * n).toNatClampNeg np) (((3 : Int32) * n) + (1 : Int32)).toNatClampNeg ni) (((3 : Int32) * n) + (2 : Int32)).toNatClampNeg nd)
def f_X6_changes_m_integral (m_measure m_before m_gain m_setpoint m_integral : Nat → Int64) (n : Int32) (np nd : Int64) : Nat → Int64 := (vp_updL m_integral n.toNatClampNeg ((m_integral n.toNatClampNeg) + ((((m_gain ((3 : Int32) * n).toNatClampNeg) - np) * (f_X6_error_r m_measure m_setpoint n)) + (((m_gain (((3 : Int32) * n) + (2 : Int32)).toNatClampNeg) - nd) * (f_X6_rate_r m_measure m_before n)))))
set_option maxHeartbeats 4000000 in
set_option maxRecDepth 100000 in
theorem c_X6_changes (l : Launch) (dC : Nat → ClassId) (dI : Nat → Nat → Nat) (cI cJ cZ cO : ClassId) (adM : Nat) (ms_samples : Int32) (q_a1 q_a2 q_b q_deadTime q_load q_measure q_before q_past q_gain q_low q_high q_setpoint q_integral q_guard q_share q_mode q_hand q_follows q_hasMaster q_isStarved q_held q_sum q_lastError q_lastRate q_goesOn q_points q_at q_then q_experiment q_center q_height q_band q_isUp q_gone q_risings q_second q_greatest q_least q_period q_swing : Nat) (ms_thrown : Int32) (m_measure m_before m_gain m_setpoint m_integral : Nat → Int64) (n : Int32) (np ni nd : Int64) (sz : Nat) (hn3 : n = 0 ∨ n = 1 ∨ n = 2) : Met l yX6_changes (Cond.code yX6_changes cX6_changes 8 none :: wAll) ({ frames := 1, cells := 0, slots := 0, locals := 21 }) (va_Pc [.ref adM, .int n, .long np, .long ni, .long nd] (gP (dC, dI) [zX6 adM ms_samples q_a1 q_a2 q_b q_deadTime q_load q_measure q_before q_past q_gain q_low q_high q_setpoint q_integral q_guard q_share q_mode q_hand q_follows q_hasMaster q_isStarved q_held q_sum q_lastError q_lastRate q_goesOn q_points q_at q_then q_experiment q_center q_height q_band q_isUp q_gone q_risings q_second q_greatest q_least q_period q_swing ms_thrown, zAJ cJ q_measure 3 m_measure, zAJ cJ q_before 3 m_before, zAJ cJ q_gain 9 m_gain, zAJ cJ q_setpoint 3 m_setpoint, zAJ cJ q_integral 3 m_integral] (tyG cI cJ cZ cO) sz gU)) (va_Qv (fun (_ : Unit) => True) (fun _ t => gB (dC, dI) (va_A [zX6 adM ms_samples q_a1 q_a2 q_b q_deadTime q_load q_measure q_before q_past q_gain q_low q_high q_setpoint q_integral q_guard q_share q_mode q_hand q_follows q_hasMaster q_isStarved q_held q_sum q_lastError q_lastRate q_goesOn q_points q_at q_then q_experiment q_center q_height q_band q_isUp q_gone q_risings q_second q_greatest q_least q_period q_swing ms_thrown, zAJ cJ q_measure 3 m_measure, zAJ cJ q_before 3 m_before, zAJ cJ q_gain 9 m_gain, zAJ cJ q_setpoint 3 m_setpoint, zAJ cJ q_integral 3 m_integral] sz) [zX6 adM ms_samples q_a1 q_a2 q_b q_deadTime q_load q_measure q_before q_past q_gain q_low q_high q_setpoint q_integral q_guard q_share q_mode q_hand q_follows q_hasMaster q_isStarved q_held q_sum q_lastError q_lastRate q_goesOn q_points q_at q_then q_experiment q_center q_height q_band q_isUp q_gone q_risings q_second q_greatest q_least q_period q_swing ms_thrown, zAJ cJ q_measure 3 m_measure, zAJ cJ q_before 3 m_before, zAJ cJ q_gain 9 (f_X6_changes_m_gain m_gain n np ni nd), zAJ cJ q_setpoint 3 m_setpoint, zAJ cJ q_integral 3 (f_X6_changes_m_integral m_measure m_before m_gain m_setpoint m_integral n np nd)] (tyG cI cJ cZ cO) t) (va_A [zX6 adM ms_samples q_a1 q_a2 q_b q_deadTime q_load q_measure q_before q_past q_gain q_low q_high q_setpoint q_integral q_guard q_share q_mode q_hand q_follows q_hasMaster q_isStarved q_held q_sum q_lastError q_lastRate q_goesOn q_points q_at q_then q_experiment q_center q_height q_band q_isUp q_gone q_risings q_second q_greatest q_least q_period q_swing ms_thrown, zAJ cJ q_measure 3 m_measure, zAJ cJ q_before 3 m_before, zAJ cJ q_gain 9 m_gain, zAJ cJ q_setpoint 3 m_setpoint, zAJ cJ q_integral 3 m_integral] sz)) 0 0 (va_A [zX6 adM ms_samples q_a1 q_a2 q_b q_deadTime q_load q_measure q_before q_past q_gain q_low q_high q_setpoint q_integral q_guard q_share q_mode q_hand q_follows q_hasMaster q_isStarved q_held q_sum q_lastError q_lastRate q_goesOn q_points q_at q_then q_experiment q_center q_height q_band q_isUp q_gone q_risings q_second q_greatest q_least q_period q_swing ms_thrown, zAJ cJ q_measure 3 m_measure, zAJ cJ q_before 3 m_before, zAJ cJ q_gain 9 m_gain, zAJ cJ q_setpoint 3 m_setpoint, zAJ cJ q_integral 3 m_integral] sz) := by
  refine Met.ofW (cc := cX6_changes) (maxL := 8) (ret := none) (by decide) rfl ?_
  intro p e s m args below meth c s₁ B hml hv
  obtain ⟨rfl, hsz, hP, hK, hD0, hG⟩ := hv
  have hx := B.exec
  have hb := B.bytes
  have hr := B.returns
  have hts := ht_of B.pre
  have hown : s.vm.findClass RX6 = some m.cls := findClass_of_methodNamed B.named
  have hlocks := B.notSynchronized
  subst hsz
  have hD := hD0.self (sz := s.heap.size)
  generalize hAe : va_A [zX6 adM ms_samples q_a1 q_a2 q_b q_deadTime q_load q_measure q_before q_past q_gain q_low q_high q_setpoint q_integral q_guard q_share q_mode q_hand q_follows q_hasMaster q_isStarved q_held q_sum q_lastError q_lastRate q_goesOn q_points q_at q_then q_experiment q_center q_height q_band q_isUp q_gone q_risings q_second q_greatest q_least q_period q_swing ms_thrown, zAJ cJ q_measure 3 m_measure, zAJ cJ q_before 3 m_before, zAJ cJ q_gain 9 m_gain, zAJ cJ q_setpoint 3 m_setpoint, zAJ cJ q_integral 3 m_integral] s.heap.size = A at hD ⊢
  have hA : ∀ q : Nat, s.heap.size ≤ q → A q := fun q h => by rw [← hAe]; exact Or.inr h
  have hS : va_S A s.heap s.heap [] := va_S.rf
  have hP : va_P (dC, dI) vwCl [zX6 adM ms_samples q_a1 q_a2 q_b q_deadTime q_load q_measure q_before q_past q_gain q_low q_high q_setpoint q_integral q_guard q_share q_mode q_hand q_follows q_hasMaster q_isStarved q_held q_sum q_lastError q_lastRate q_goesOn q_points q_at q_then q_experiment q_center q_height q_band q_isUp q_gone q_risings q_second q_greatest q_least q_period q_swing ms_thrown, zAJ cJ q_measure 3 m_measure, zAJ cJ q_before 3 m_before, zAJ cJ q_gain 9 m_gain, zAJ cJ q_setpoint 3 m_setpoint, zAJ cJ q_integral 3 m_integral] s.heap := hP
  have hl := lv_entry ([.ref adM, .int n, .long np, .long ni, .long nd]) (n := 8) (Nat.le_of_ble_eq_true rfl)
  rw [lg_entry_eq]
  generalize (lg_sl ([.ref adM, .int n, .long np, .long ni, .long nd]) ++ List.replicate (8 - (lg_sl ([.ref adM, .int n, .long np, .long ni, .long nd])).length) Slot.unset).toArray = ls at hl ⊢
  have hl : lv_has ls 8 [(0, .ref adM), (1, .int n), (2, .long np), (4, .long ni), (6, .long nd)] := hl
  refine hh_name (fun Q hQ => ?_)
  refine lv_aload_n hx hb dX6_changes_0 rfl (lv_at hl 0 rfl) ?_
  refine va_get (D := (dC, dI)) (ci := 6) (v := .ref q_integral) (C := RX6) (T := TX6) (N := 42) hx hb hts inW_X6 hown hK hP 0 rfl rfl 13 (by decide) (hts _ wd_4_69) (fun _ h9 => h9) rfl dX6_changes_1 ?_
  refine lv_iload_n hx hb dX6_changes_4 rfl (lv_at hl 1 rfl) ?_
  refine lv_dup2_11 hx hb dX6_changes_5 rfl rfl ?_
  refine va_lald hx hb hK hP 5 1 rfl rfl (i := n) (ix_of (P := fun n => vp_in n 3) (hn3) (ix_d (by decide)) (ix_d (by decide)) (ix_d (by decide))) dX6_changes_6 ?_
  refine lv_aload_n hx hb dX6_changes_7 rfl (lv_at hl 0 rfl) ?_
  refine va_get (D := (dC, dI)) (ci := 6) (v := .ref q_gain) (C := RX6) (T := TX6) (N := 42) hx hb hts inW_X6 hown hK hP 0 rfl rfl 9 (by decide) (hts _ wd_4_65) (fun _ h9 => h9) rfl dX6_changes_8 ?_
  refine lv_iconst (v := 3) hx hb dX6_changes_11 (by decide) ?_
  refine lv_iload_n hx hb dX6_changes_12 rfl (lv_at hl 1 rfl) ?_
  refine lv_imul hx hb dX6_changes_13 ?_
  refine va_lald hx hb hK hP 3 1 rfl rfl (i := ((3 : Int32) * n)) (ix_of (P := fun n => vp_in ((3 : Int32) * n) 9) (hn3) (ix_d (by decide)) (ix_d (by decide)) (ix_d (by decide))) dX6_changes_14 ?_
  refine lv_lload_n hx hb dX6_changes_15 rfl (lv_at hl 2 rfl) ?_
  refine lv_lsub hx hb dX6_changes_16 ?_
  refine lv_aload_n hx hb dX6_changes_17 rfl (lv_at hl 0 rfl) ?_
  refine lv_iload_n hx hb dX6_changes_18 rfl (lv_at hl 1 rfl) ?_
  refine hh_calll (w2 := [zX6 adM ms_samples q_a1 q_a2 q_b q_deadTime q_load q_measure q_before q_past q_gain q_low q_high q_setpoint q_integral q_guard q_share q_mode q_hand q_follows q_hasMaster q_isStarved q_held q_sum q_lastError q_lastRate q_goesOn q_points q_at q_then q_experiment q_center q_height q_band q_isUp q_gone q_risings q_second q_greatest q_least q_period q_swing ms_thrown, zAJ cJ q_measure 3 m_measure, zAJ cJ q_before 3 m_before, zAJ cJ q_gain 9 m_gain, zAJ cJ q_setpoint 3 m_setpoint, zAJ cJ q_integral 3 m_integral]) (va_runV (As := [.int n]) (rest := [.long ((m_gain ((3 : Int32) * n).toNatClampNeg) - np), .long (m_integral n.toNatClampNeg), .int n, .ref q_integral]) ⟨hx, hb, hml, hown, hts⟩ (c_X6_error l dC dI cI cJ cZ cO adM ms_samples q_a1 q_a2 q_b q_deadTime q_load q_measure q_before q_past q_gain q_low q_high q_setpoint q_integral q_guard q_share q_mode q_hand q_follows q_hasMaster q_isStarved q_held q_sum q_lastError q_lastRate q_goesOn q_points q_at q_then q_experiment q_center q_height q_band q_isUp q_gone q_risings q_second q_greatest q_least q_period q_swing ms_thrown m_measure m_setpoint n _ hn3) (cwV 1 hts (gd_V wd_4_219 wd_4_221 wd_p_12 wd_1_7 wd_4_222) rfl rfl rfl (by decide +kernel) ⟨Nat.le_of_ble_eq_true rfl, Nat.le_of_ble_eq_true rfl⟩) (hh_pV (ci := 6) (q := (RX6, TX6, 42)) (q0 := 0) rfl rfl gU_c (fun _ _ _ => trivial) hK hP hD [0, 1, 4] rfl rfl) rfl rfl hl.1 rfl (lv_room (Nat.le_of_ble_eq_true rfl)) dX6_changes_19 ⟨Nat.le_of_ble_eq_true rfl, Nat.le_of_ble_eq_true rfl⟩) hP hD hS hA [0, 1, 4] [2, 3, 5] [3, 4, 0, 1, 5, 2] rfl rfl rfl (by decide) rfl rfl (fun H locs hP hD hS => ?_)
  refine lv_lmul hx hb dX6_changes_22 ?_
  refine lv_aload_n hx hb dX6_changes_23 rfl (lv_at hl 0 rfl) ?_
  refine va_get (D := (dC, dI)) (ci := 6) (v := .ref q_gain) (C := RX6) (T := TX6) (N := 42) hx hb hts inW_X6 hown hK hP 0 rfl rfl 9 (by decide) (hts _ wd_4_65) (fun _ h9 => h9) rfl dX6_changes_24 ?_
  refine lv_iconst (v := 3) hx hb dX6_changes_27 (by decide) ?_
  refine lv_iload_n hx hb dX6_changes_28 rfl (lv_at hl 1 rfl) ?_
  refine lv_imul hx hb dX6_changes_29 ?_
  refine lv_iconst (v := 2) hx hb dX6_changes_30 (by decide) ?_
  refine lv_iadd hx hb dX6_changes_31 ?_
  refine va_lald hx hb hK hP 3 1 rfl rfl (i := (((3 : Int32) * n) + (2 : Int32))) (ix_of (P := fun n => vp_in (((3 : Int32) * n) + (2 : Int32)) 9) (hn3) (ix_d (by decide)) (ix_d (by decide)) (ix_d (by decide))) dX6_changes_32 ?_
  refine lv_lload hx hb dX6_changes_33 (lv_at hl 4 rfl) ?_
  refine lv_lsub hx hb dX6_changes_35 ?_
  refine lv_aload_n hx hb dX6_changes_36 rfl (lv_at hl 0 rfl) ?_
  refine lv_iload_n hx hb dX6_changes_37 rfl (lv_at hl 1 rfl) ?_
  refine hh_calll (w2 := [zX6 adM ms_samples q_a1 q_a2 q_b q_deadTime q_load q_measure q_before q_past q_gain q_low q_high q_setpoint q_integral q_guard q_share q_mode q_hand q_follows q_hasMaster q_isStarved q_held q_sum q_lastError q_lastRate q_goesOn q_points q_at q_then q_experiment q_center q_height q_band q_isUp q_gone q_risings q_second q_greatest q_least q_period q_swing ms_thrown, zAJ cJ q_measure 3 m_measure, zAJ cJ q_before 3 m_before, zAJ cJ q_gain 9 m_gain, zAJ cJ q_setpoint 3 m_setpoint, zAJ cJ q_integral 3 m_integral]) (va_runV (As := [.int n]) (rest := [.long ((m_gain (((3 : Int32) * n) + (2 : Int32)).toNatClampNeg) - nd), .long (((m_gain ((3 : Int32) * n).toNatClampNeg) - np) * (f_X6_error_r m_measure m_setpoint n)), .long (m_integral n.toNatClampNeg), .int n, .ref q_integral]) ⟨hx, hb, hml, hown, hts⟩ (c_X6_rate l dC dI cI cJ cZ cO adM ms_samples q_a1 q_a2 q_b q_deadTime q_load q_measure q_before q_past q_gain q_low q_high q_setpoint q_integral q_guard q_share q_mode q_hand q_follows q_hasMaster q_isStarved q_held q_sum q_lastError q_lastRate q_goesOn q_points q_at q_then q_experiment q_center q_height q_band q_isUp q_gone q_risings q_second q_greatest q_least q_period q_swing ms_thrown m_measure m_before n _ hn3) (cwV 1 hts (gd_V wd_4_223 wd_4_225 wd_p_13 wd_1_7 wd_4_226) rfl rfl rfl (by decide +kernel) ⟨Nat.le_of_ble_eq_true rfl, Nat.le_of_ble_eq_true rfl⟩) (hh_pV (ci := 6) (q := (RX6, TX6, 42)) (q0 := 0) rfl rfl gU_c (fun _ _ _ => trivial) hK hP hD [0, 1, 2] rfl rfl) rfl rfl hl.1 rfl (lv_room (Nat.le_of_ble_eq_true rfl)) dX6_changes_38 ⟨Nat.le_of_ble_eq_true rfl, Nat.le_of_ble_eq_true rfl⟩) hP hD hS hA [0, 1, 2] [3, 4, 5] [3, 4, 5, 0, 1, 2] rfl rfl rfl (by decide) rfl rfl (fun H locs hP hD hS => ?_)
  refine lv_lmul hx hb dX6_changes_41 ?_
  refine lv_ladd hx hb dX6_changes_42 ?_
  refine lv_ladd hx hb dX6_changes_43 ?_
  refine va_last hx hb hK hP hD hS 5 1 rfl rfl (i := n) (ix_of (P := fun n => vp_in n 3) (hn3) (ix_d (by decide)) (ix_d (by decide)) (ix_d (by decide))) dX6_changes_44 (fun H locs hP hD hS => ?_)
  have hP : va_P (dC, dI) vwCl [zX6 adM ms_samples q_a1 q_a2 q_b q_deadTime q_load q_measure q_before q_past q_gain q_low q_high q_setpoint q_integral q_guard q_share q_mode q_hand q_follows q_hasMaster q_isStarved q_held q_sum q_lastError q_lastRate q_goesOn q_points q_at q_then q_experiment q_center q_height q_band q_isUp q_gone q_risings q_second q_greatest q_least q_period q_swing ms_thrown, zAJ cJ q_measure 3 m_measure, zAJ cJ q_before 3 m_before, zAJ cJ q_gain 9 m_gain, zAJ cJ q_setpoint 3 m_setpoint, zAJ cJ q_integral 3 (vp_updL m_integral n.toNatClampNeg ((m_integral n.toNatClampNeg) + ((((m_gain ((3 : Int32) * n).toNatClampNeg) - np) * (f_X6_error_r m_measure m_setpoint n)) + (((m_gain (((3 : Int32) * n) + (2 : Int32)).toNatClampNeg) - nd) * (f_X6_rate_r m_measure m_before n)))))] H := hP
  have hD : va_D A [zX6 adM ms_samples q_a1 q_a2 q_b q_deadTime q_load q_measure q_before q_past q_gain q_low q_high q_setpoint q_integral q_guard q_share q_mode q_hand q_follows q_hasMaster q_isStarved q_held q_sum q_lastError q_lastRate q_goesOn q_points q_at q_then q_experiment q_center q_height q_band q_isUp q_gone q_risings q_second q_greatest q_least q_period q_swing ms_thrown, zAJ cJ q_measure 3 m_measure, zAJ cJ q_before 3 m_before, zAJ cJ q_gain 9 m_gain, zAJ cJ q_setpoint 3 m_setpoint, zAJ cJ q_integral 3 (vp_updL m_integral n.toNatClampNeg ((m_integral n.toNatClampNeg) + ((((m_gain ((3 : Int32) * n).toNatClampNeg) - np) * (f_X6_error_r m_measure m_setpoint n)) + (((m_gain (((3 : Int32) * n) + (2 : Int32)).toNatClampNeg) - nd) * (f_X6_rate_r m_measure m_before n)))))] := hD
  refine lv_aload_n hx hb dX6_changes_45 rfl (lv_at hl 0 rfl) ?_
  refine va_get (D := (dC, dI)) (ci := 6) (v := .ref q_gain) (C := RX6) (T := TX6) (N := 42) hx hb hts inW_X6 hown hK hP 0 rfl rfl 9 (by decide) (hts _ wd_4_65) (fun _ h9 => h9) rfl dX6_changes_46 ?_
  refine lv_iconst (v := 3) hx hb dX6_changes_49 (by decide) ?_
  refine lv_iload_n hx hb dX6_changes_50 rfl (lv_at hl 1 rfl) ?_
  refine lv_imul hx hb dX6_changes_51 ?_
  refine lv_lload_n hx hb dX6_changes_52 rfl (lv_at hl 2 rfl) ?_
  refine va_last hx hb hK hP hD hS 3 1 rfl rfl (i := ((3 : Int32) * n)) (ix_of (P := fun n => vp_in ((3 : Int32) * n) 9) (hn3) (ix_d (by decide)) (ix_d (by decide)) (ix_d (by decide))) dX6_changes_53 (fun H locs hP hD hS => ?_)
  have hP : va_P (dC, dI) vwCl [zX6 adM ms_samples q_a1 q_a2 q_b q_deadTime q_load q_measure q_before q_past q_gain q_low q_high q_setpoint q_integral q_guard q_share q_mode q_hand q_follows q_hasMaster q_isStarved q_held q_sum q_lastError q_lastRate q_goesOn q_points q_at q_then q_experiment q_center q_height q_band q_isUp q_gone q_risings q_second q_greatest q_least q_period q_swing ms_thrown, zAJ cJ q_measure 3 m_measure, zAJ cJ q_before 3 m_before, zAJ cJ q_gain 9 (vp_updL m_gain ((3 : Int32) * n).toNatClampNeg np), zAJ cJ q_setpoint 3 m_setpoint, zAJ cJ q_integral 3 (vp_updL m_integral n.toNatClampNeg ((m_integral n.toNatClampNeg) + ((((m_gain ((3 : Int32) * n).toNatClampNeg) - np) * (f_X6_error_r m_measure m_setpoint n)) + (((m_gain (((3 : Int32) * n) + (2 : Int32)).toNatClampNeg) - nd) * (f_X6_rate_r m_measure m_before n)))))] H := hP
  have hD : va_D A [zX6 adM ms_samples q_a1 q_a2 q_b q_deadTime q_load q_measure q_before q_past q_gain q_low q_high q_setpoint q_integral q_guard q_share q_mode q_hand q_follows q_hasMaster q_isStarved q_held q_sum q_lastError q_lastRate q_goesOn q_points q_at q_then q_experiment q_center q_height q_band q_isUp q_gone q_risings q_second q_greatest q_least q_period q_swing ms_thrown, zAJ cJ q_measure 3 m_measure, zAJ cJ q_before 3 m_before, zAJ cJ q_gain 9 (vp_updL m_gain ((3 : Int32) * n).toNatClampNeg np), zAJ cJ q_setpoint 3 m_setpoint, zAJ cJ q_integral 3 (vp_updL m_integral n.toNatClampNeg ((m_integral n.toNatClampNeg) + ((((m_gain ((3 : Int32) * n).toNatClampNeg) - np) * (f_X6_error_r m_measure m_setpoint n)) + (((m_gain (((3 : Int32) * n) + (2 : Int32)).toNatClampNeg) - nd) * (f_X6_rate_r m_measure m_before n)))))] := hD
  refine lv_aload_n hx hb dX6_changes_54 rfl (lv_at hl 0 rfl) ?_
  refine va_get (D := (dC, dI)) (ci := 6) (v := .ref q_gain) (C := RX6) (T := TX6) (N := 42) hx hb hts inW_X6 hown hK hP 0 rfl rfl 9 (by decide) (hts _ wd_4_65) (fun _ h9 => h9) rfl dX6_changes_55 ?_
  refine lv_iconst (v := 3) hx hb dX6_changes_58 (by decide) ?_
  refine lv_iload_n hx hb dX6_changes_59 rfl (lv_at hl 1 rfl) ?_
  refine lv_imul hx hb dX6_changes_60 ?_
  refine lv_iconst (v := 1) hx hb dX6_changes_61 (by decide) ?_
  refine lv_iadd hx hb dX6_changes_62 ?_
  refine lv_lload hx hb dX6_changes_63 (lv_at hl 3 rfl) ?_
  refine va_last hx hb hK hP hD hS 3 1 rfl rfl (i := (((3 : Int32) * n) + (1 : Int32))) (ix_of (P := fun n => vp_in (((3 : Int32) * n) + (1 : Int32)) 9) (hn3) (ix_d (by decide)) (ix_d (by decide)) (ix_d (by decide))) dX6_changes_65 (fun H locs hP hD hS => ?_)
  have hP : va_P (dC, dI) vwCl [zX6 adM ms_samples q_a1 q_a2 q_b q_deadTime q_load q_measure q_before q_past q_gain q_low q_high q_setpoint q_integral q_guard q_share q_mode q_hand q_follows q_hasMaster q_isStarved q_held q_sum q_lastError q_lastRate q_goesOn q_points q_at q_then q_experiment q_center q_height q_band q_isUp q_gone q_risings q_second q_greatest q_least q_period q_swing ms_thrown, zAJ cJ q_measure 3 m_measure, zAJ cJ q_before 3 m_before, zAJ cJ q_gain 9 (vp_updL (vp_updL m_gain ((3 : Int32) * n).toNatClampNeg np) (((3 : Int32) * n) + (1 : Int32)).toNatClampNeg ni), zAJ cJ q_setpoint 3 m_setpoint, zAJ cJ q_integral 3 (vp_updL m_integral n.toNatClampNeg ((m_integral n.toNatClampNeg) + ((((m_gain ((3 : Int32) * n).toNatClampNeg) - np) * (f_X6_error_r m_measure m_setpoint n)) + (((m_gain (((3 : Int32) * n) + (2 : Int32)).toNatClampNeg) - nd) * (f_X6_rate_r m_measure m_before n)))))] H := hP
  have hD : va_D A [zX6 adM ms_samples q_a1 q_a2 q_b q_deadTime q_load q_measure q_before q_past q_gain q_low q_high q_setpoint q_integral q_guard q_share q_mode q_hand q_follows q_hasMaster q_isStarved q_held q_sum q_lastError q_lastRate q_goesOn q_points q_at q_then q_experiment q_center q_height q_band q_isUp q_gone q_risings q_second q_greatest q_least q_period q_swing ms_thrown, zAJ cJ q_measure 3 m_measure, zAJ cJ q_before 3 m_before, zAJ cJ q_gain 9 (vp_updL (vp_updL m_gain ((3 : Int32) * n).toNatClampNeg np) (((3 : Int32) * n) + (1 : Int32)).toNatClampNeg ni), zAJ cJ q_setpoint 3 m_setpoint, zAJ cJ q_integral 3 (vp_updL m_integral n.toNatClampNeg ((m_integral n.toNatClampNeg) + ((((m_gain ((3 : Int32) * n).toNatClampNeg) - np) * (f_X6_error_r m_measure m_setpoint n)) + (((m_gain (((3 : Int32) * n) + (2 : Int32)).toNatClampNeg) - nd) * (f_X6_rate_r m_measure m_before n)))))] := hD
  refine lv_aload_n hx hb dX6_changes_66 rfl (lv_at hl 0 rfl) ?_
  refine va_get (D := (dC, dI)) (ci := 6) (v := .ref q_gain) (C := RX6) (T := TX6) (N := 42) hx hb hts inW_X6 hown hK hP 0 rfl rfl 9 (by decide) (hts _ wd_4_65) (fun _ h9 => h9) rfl dX6_changes_67 ?_
  refine lv_iconst (v := 3) hx hb dX6_changes_70 (by decide) ?_
  refine lv_iload_n hx hb dX6_changes_71 rfl (lv_at hl 1 rfl) ?_
  refine lv_imul hx hb dX6_changes_72 ?_
  refine lv_iconst (v := 2) hx hb dX6_changes_73 (by decide) ?_
  refine lv_iadd hx hb dX6_changes_74 ?_
  refine lv_lload hx hb dX6_changes_75 (lv_at hl 4 rfl) ?_
  refine va_last hx hb hK hP hD hS 3 1 rfl rfl (i := (((3 : Int32) * n) + (2 : Int32))) (ix_of (P := fun n => vp_in (((3 : Int32) * n) + (2 : Int32)) 9) (hn3) (ix_d (by decide)) (ix_d (by decide)) (ix_d (by decide))) dX6_changes_77 (fun H locs hP hD hS => ?_)
  have hP : va_P (dC, dI) vwCl [zX6 adM ms_samples q_a1 q_a2 q_b q_deadTime q_load q_measure q_before q_past q_gain q_low q_high q_setpoint q_integral q_guard q_share q_mode q_hand q_follows q_hasMaster q_isStarved q_held q_sum q_lastError q_lastRate q_goesOn q_points q_at q_then q_experiment q_center q_height q_band q_isUp q_gone q_risings q_second q_greatest q_least q_period q_swing ms_thrown, zAJ cJ q_measure 3 m_measure, zAJ cJ q_before 3 m_before, zAJ cJ q_gain 9 (vp_updL (vp_updL (vp_updL m_gain ((3 : Int32) * n).toNatClampNeg np) (((3 : Int32) * n) + (1 : Int32)).toNatClampNeg ni) (((3 : Int32) * n) + (2 : Int32)).toNatClampNeg nd), zAJ cJ q_setpoint 3 m_setpoint, zAJ cJ q_integral 3 (vp_updL m_integral n.toNatClampNeg ((m_integral n.toNatClampNeg) + ((((m_gain ((3 : Int32) * n).toNatClampNeg) - np) * (f_X6_error_r m_measure m_setpoint n)) + (((m_gain (((3 : Int32) * n) + (2 : Int32)).toNatClampNeg) - nd) * (f_X6_rate_r m_measure m_before n)))))] H := hP
  have hD : va_D A [zX6 adM ms_samples q_a1 q_a2 q_b q_deadTime q_load q_measure q_before q_past q_gain q_low q_high q_setpoint q_integral q_guard q_share q_mode q_hand q_follows q_hasMaster q_isStarved q_held q_sum q_lastError q_lastRate q_goesOn q_points q_at q_then q_experiment q_center q_height q_band q_isUp q_gone q_risings q_second q_greatest q_least q_period q_swing ms_thrown, zAJ cJ q_measure 3 m_measure, zAJ cJ q_before 3 m_before, zAJ cJ q_gain 9 (vp_updL (vp_updL (vp_updL m_gain ((3 : Int32) * n).toNatClampNeg np) (((3 : Int32) * n) + (1 : Int32)).toNatClampNeg ni) (((3 : Int32) * n) + (2 : Int32)).toNatClampNeg nd), zAJ cJ q_setpoint 3 m_setpoint, zAJ cJ q_integral 3 (vp_updL m_integral n.toNatClampNeg ((m_integral n.toNatClampNeg) + ((((m_gain ((3 : Int32) * n).toNatClampNeg) - np) * (f_X6_error_r m_measure m_setpoint n)) + (((m_gain (((3 : Int32) * n) + (2 : Int32)).toNatClampNeg) - nd) * (f_X6_rate_r m_measure m_before n)))))] := hD
  exact hh_retv hQ hx hb hr hlocks hP hK hD hS dX6_changes_78
def f_X6_settle_m_integral (m_measure m_before m_gain m_setpoint m_integral : Nat → Int64) (n : Int32) (ov : Int64) : Nat → Int64 := (vp_updL m_integral n.toNatClampNeg ((((1000 : Int64) * ov) - ((m_gain ((3 : Int32) * n).toNatClampNeg) * (f_X6_error_r m_measure m_setpoint n))) - ((m_gain (((3 : Int32) * n) + (2 : Int32)).toNatClampNeg) * (f_X6_rate_r m_measure m_before n))))
def f_X6_settle_m_goesOn (m_goesOn : Nat → Int32) (n : Int32) : Nat → Int32 := (upd m_goesOn n.toNatClampNeg (vp_nar .boolean (0 : Int32)))
set_option maxHeartbeats 4000000 in
set_option maxRecDepth 100000 in
theorem c_X6_settle (l : Launch) (dC : Nat → ClassId) (dI : Nat → Nat → Nat) (cI cJ cZ cO : ClassId) (adM : Nat) (ms_samples : Int32) (q_a1 q_a2 q_b q_deadTime q_load q_measure q_before q_past q_gain q_low q_high q_setpoint q_integral q_guard q_share q_mode q_hand q_follows q_hasMaster q_isStarved q_held q_sum q_lastError q_lastRate q_goesOn q_points q_at q_then q_experiment q_center q_height q_band q_isUp q_gone q_risings q_second q_greatest q_least q_period q_swing : Nat) (ms_thrown : Int32) (m_measure m_before m_gain m_setpoint m_integral : Nat → Int64) (m_goesOn : Nat → Int32) (n : Int32) (ov : Int64) (sz : Nat) (hn3 : n = 0 ∨ n = 1 ∨ n = 2) : Met l yX6_settle (Cond.code yX6_settle cX6_settle 4 none :: wAll) ({ frames := 1, cells := 0, slots := 0, locals := 21 }) (va_Pc [.ref adM, .int n, .long ov] (gP (dC, dI) [zX6 adM ms_samples q_a1 q_a2 q_b q_deadTime q_load q_measure q_before q_past q_gain q_low q_high q_setpoint q_integral q_guard q_share q_mode q_hand q_follows q_hasMaster q_isStarved q_held q_sum q_lastError q_lastRate q_goesOn q_points q_at q_then q_experiment q_center q_height q_band q_isUp q_gone q_risings q_second q_greatest q_least q_period q_swing ms_thrown, zAJ cJ q_measure 3 m_measure, zAJ cJ q_before 3 m_before, zAJ cJ q_gain 9 m_gain, zAJ cJ q_setpoint 3 m_setpoint, zAJ cJ q_integral 3 m_integral, zAI cZ q_goesOn 3 m_goesOn] (tyG cI cJ cZ cO) sz gU)) (va_Qv (fun (_ : Unit) => True) (fun _ t => gB (dC, dI) (va_A [zX6 adM ms_samples q_a1 q_a2 q_b q_deadTime q_load q_measure q_before q_past q_gain q_low q_high q_setpoint q_integral q_guard q_share q_mode q_hand q_follows q_hasMaster q_isStarved q_held q_sum q_lastError q_lastRate q_goesOn q_points q_at q_then q_experiment q_center q_height q_band q_isUp q_gone q_risings q_second q_greatest q_least q_period q_swing ms_thrown, zAJ cJ q_measure 3 m_measure, zAJ cJ q_before 3 m_before, zAJ cJ q_gain 9 m_gain, zAJ cJ q_setpoint 3 m_setpoint, zAJ cJ q_integral 3 m_integral, zAI cZ q_goesOn 3 m_goesOn] sz) [zX6 adM ms_samples q_a1 q_a2 q_b q_deadTime q_load q_measure q_before q_past q_gain q_low q_high q_setpoint q_integral q_guard q_share q_mode q_hand q_follows q_hasMaster q_isStarved q_held q_sum q_lastError q_lastRate q_goesOn q_points q_at q_then q_experiment q_center q_height q_band q_isUp q_gone q_risings q_second q_greatest q_least q_period q_swing ms_thrown, zAJ cJ q_measure 3 m_measure, zAJ cJ q_before 3 m_before, zAJ cJ q_gain 9 m_gain, zAJ cJ q_setpoint 3 m_setpoint, zAJ cJ q_integral 3 (f_X6_settle_m_integral m_measure m_before m_gain m_setpoint m_integral n ov), zAI cZ q_goesOn 3 (f_X6_settle_m_goesOn m_goesOn n)] (tyG cI cJ cZ cO) t) (va_A [zX6 adM ms_samples q_a1 q_a2 q_b q_deadTime q_load q_measure q_before q_past q_gain q_low q_high q_setpoint q_integral q_guard q_share q_mode q_hand q_follows q_hasMaster q_isStarved q_held q_sum q_lastError q_lastRate q_goesOn q_points q_at q_then q_experiment q_center q_height q_band q_isUp q_gone q_risings q_second q_greatest q_least q_period q_swing ms_thrown, zAJ cJ q_measure 3 m_measure, zAJ cJ q_before 3 m_before, zAJ cJ q_gain 9 m_gain, zAJ cJ q_setpoint 3 m_setpoint, zAJ cJ q_integral 3 m_integral, zAI cZ q_goesOn 3 m_goesOn] sz)) 0 0 (va_A [zX6 adM ms_samples q_a1 q_a2 q_b q_deadTime q_load q_measure q_before q_past q_gain q_low q_high q_setpoint q_integral q_guard q_share q_mode q_hand q_follows q_hasMaster q_isStarved q_held q_sum q_lastError q_lastRate q_goesOn q_points q_at q_then q_experiment q_center q_height q_band q_isUp q_gone q_risings q_second q_greatest q_least q_period q_swing ms_thrown, zAJ cJ q_measure 3 m_measure, zAJ cJ q_before 3 m_before, zAJ cJ q_gain 9 m_gain, zAJ cJ q_setpoint 3 m_setpoint, zAJ cJ q_integral 3 m_integral, zAI cZ q_goesOn 3 m_goesOn] sz) := by
  refine Met.ofW (cc := cX6_settle) (maxL := 4) (ret := none) (by decide) rfl ?_
  intro p e s m args below meth c s₁ B hml hv
  obtain ⟨rfl, hsz, hP, hK, hD0, hG⟩ := hv
  have hx := B.exec
  have hb := B.bytes
  have hr := B.returns
  have hts := ht_of B.pre
  have hown : s.vm.findClass RX6 = some m.cls := findClass_of_methodNamed B.named
  have hlocks := B.notSynchronized
  subst hsz
  have hD := hD0.self (sz := s.heap.size)
  generalize hAe : va_A [zX6 adM ms_samples q_a1 q_a2 q_b q_deadTime q_load q_measure q_before q_past q_gain q_low q_high q_setpoint q_integral q_guard q_share q_mode q_hand q_follows q_hasMaster q_isStarved q_held q_sum q_lastError q_lastRate q_goesOn q_points q_at q_then q_experiment q_center q_height q_band q_isUp q_gone q_risings q_second q_greatest q_least q_period q_swing ms_thrown, zAJ cJ q_measure 3 m_measure, zAJ cJ q_before 3 m_before, zAJ cJ q_gain 9 m_gain, zAJ cJ q_setpoint 3 m_setpoint, zAJ cJ q_integral 3 m_integral, zAI cZ q_goesOn 3 m_goesOn] s.heap.size = A at hD ⊢
  have hA : ∀ q : Nat, s.heap.size ≤ q → A q := fun q h => by rw [← hAe]; exact Or.inr h
  have hS : va_S A s.heap s.heap [] := va_S.rf
  have hP : va_P (dC, dI) vwCl [zX6 adM ms_samples q_a1 q_a2 q_b q_deadTime q_load q_measure q_before q_past q_gain q_low q_high q_setpoint q_integral q_guard q_share q_mode q_hand q_follows q_hasMaster q_isStarved q_held q_sum q_lastError q_lastRate q_goesOn q_points q_at q_then q_experiment q_center q_height q_band q_isUp q_gone q_risings q_second q_greatest q_least q_period q_swing ms_thrown, zAJ cJ q_measure 3 m_measure, zAJ cJ q_before 3 m_before, zAJ cJ q_gain 9 m_gain, zAJ cJ q_setpoint 3 m_setpoint, zAJ cJ q_integral 3 m_integral, zAI cZ q_goesOn 3 m_goesOn] s.heap := hP
  have hl := lv_entry ([.ref adM, .int n, .long ov]) (n := 4) (Nat.le_of_ble_eq_true rfl)
  rw [lg_entry_eq]
  generalize (lg_sl ([.ref adM, .int n, .long ov]) ++ List.replicate (4 - (lg_sl ([.ref adM, .int n, .long ov])).length) Slot.unset).toArray = ls at hl ⊢
  have hl : lv_has ls 4 [(0, .ref adM), (1, .int n), (2, .long ov)] := hl
  refine hh_name (fun Q hQ => ?_)
  refine lv_aload_n hx hb dX6_settle_0 rfl (lv_at hl 0 rfl) ?_
  refine va_get (D := (dC, dI)) (ci := 6) (v := .ref q_integral) (C := RX6) (T := TX6) (N := 42) hx hb hts inW_X6 hown hK hP 0 rfl rfl 13 (by decide) (hts _ wd_4_69) (fun _ h9 => h9) rfl dX6_settle_1 ?_
  refine lv_iload_n hx hb dX6_settle_4 rfl (lv_at hl 1 rfl) ?_
  refine lv_ldc2 (v := 1000) hx hb hown (hts _ wd_4_53) dX6_settle_5 ?_
  refine lv_lload_n hx hb dX6_settle_8 rfl (lv_at hl 2 rfl) ?_
  refine lv_lmul hx hb dX6_settle_9 ?_
  refine lv_aload_n hx hb dX6_settle_10 rfl (lv_at hl 0 rfl) ?_
  refine va_get (D := (dC, dI)) (ci := 6) (v := .ref q_gain) (C := RX6) (T := TX6) (N := 42) hx hb hts inW_X6 hown hK hP 0 rfl rfl 9 (by decide) (hts _ wd_4_65) (fun _ h9 => h9) rfl dX6_settle_11 ?_
  refine lv_iconst (v := 3) hx hb dX6_settle_14 (by decide) ?_
  refine lv_iload_n hx hb dX6_settle_15 rfl (lv_at hl 1 rfl) ?_
  refine lv_imul hx hb dX6_settle_16 ?_
  refine va_lald hx hb hK hP 3 1 rfl rfl (i := ((3 : Int32) * n)) (ix_of (P := fun n => vp_in ((3 : Int32) * n) 9) (hn3) (ix_d (by decide)) (ix_d (by decide)) (ix_d (by decide))) dX6_settle_17 ?_
  refine lv_aload_n hx hb dX6_settle_18 rfl (lv_at hl 0 rfl) ?_
  refine lv_iload_n hx hb dX6_settle_19 rfl (lv_at hl 1 rfl) ?_
  refine hh_calll (w2 := [zX6 adM ms_samples q_a1 q_a2 q_b q_deadTime q_load q_measure q_before q_past q_gain q_low q_high q_setpoint q_integral q_guard q_share q_mode q_hand q_follows q_hasMaster q_isStarved q_held q_sum q_lastError q_lastRate q_goesOn q_points q_at q_then q_experiment q_center q_height q_band q_isUp q_gone q_risings q_second q_greatest q_least q_period q_swing ms_thrown, zAJ cJ q_measure 3 m_measure, zAJ cJ q_before 3 m_before, zAJ cJ q_gain 9 m_gain, zAJ cJ q_setpoint 3 m_setpoint, zAJ cJ q_integral 3 m_integral, zAI cZ q_goesOn 3 m_goesOn]) (va_runV (As := [.int n]) (rest := [.long (m_gain ((3 : Int32) * n).toNatClampNeg), .long ((1000 : Int64) * ov), .int n, .ref q_integral]) ⟨hx, hb, hml, hown, hts⟩ (c_X6_error l dC dI cI cJ cZ cO adM ms_samples q_a1 q_a2 q_b q_deadTime q_load q_measure q_before q_past q_gain q_low q_high q_setpoint q_integral q_guard q_share q_mode q_hand q_follows q_hasMaster q_isStarved q_held q_sum q_lastError q_lastRate q_goesOn q_points q_at q_then q_experiment q_center q_height q_band q_isUp q_gone q_risings q_second q_greatest q_least q_period q_swing ms_thrown m_measure m_setpoint n _ hn3) (cwV 1 hts (gd_V wd_4_219 wd_4_221 wd_p_12 wd_1_7 wd_4_222) rfl rfl rfl (by decide +kernel) ⟨Nat.le_of_ble_eq_true rfl, Nat.le_of_ble_eq_true rfl⟩) (hh_pV (ci := 6) (q := (RX6, TX6, 42)) (q0 := 0) rfl rfl gU_c (fun _ _ _ => trivial) hK hP hD [0, 1, 4] rfl rfl) rfl rfl hl.1 rfl (lv_room (Nat.le_of_ble_eq_true rfl)) dX6_settle_20 ⟨Nat.le_of_ble_eq_true rfl, Nat.le_of_ble_eq_true rfl⟩) hP hD hS hA [0, 1, 4] [2, 3, 5, 6] [4, 5, 0, 1, 6, 2, 3] rfl rfl rfl (by decide) rfl rfl (fun H locs hP hD hS => ?_)
  refine lv_lmul hx hb dX6_settle_23 ?_
  refine lv_lsub hx hb dX6_settle_24 ?_
  refine lv_aload_n hx hb dX6_settle_25 rfl (lv_at hl 0 rfl) ?_
  refine va_get (D := (dC, dI)) (ci := 6) (v := .ref q_gain) (C := RX6) (T := TX6) (N := 42) hx hb hts inW_X6 hown hK hP 0 rfl rfl 9 (by decide) (hts _ wd_4_65) (fun _ h9 => h9) rfl dX6_settle_26 ?_
  refine lv_iconst (v := 3) hx hb dX6_settle_29 (by decide) ?_
  refine lv_iload_n hx hb dX6_settle_30 rfl (lv_at hl 1 rfl) ?_
  refine lv_imul hx hb dX6_settle_31 ?_
  refine lv_iconst (v := 2) hx hb dX6_settle_32 (by decide) ?_
  refine lv_iadd hx hb dX6_settle_33 ?_
  refine va_lald hx hb hK hP 3 1 rfl rfl (i := (((3 : Int32) * n) + (2 : Int32))) (ix_of (P := fun n => vp_in (((3 : Int32) * n) + (2 : Int32)) 9) (hn3) (ix_d (by decide)) (ix_d (by decide)) (ix_d (by decide))) dX6_settle_34 ?_
  refine lv_aload_n hx hb dX6_settle_35 rfl (lv_at hl 0 rfl) ?_
  refine lv_iload_n hx hb dX6_settle_36 rfl (lv_at hl 1 rfl) ?_
  refine hh_calll (w2 := [zX6 adM ms_samples q_a1 q_a2 q_b q_deadTime q_load q_measure q_before q_past q_gain q_low q_high q_setpoint q_integral q_guard q_share q_mode q_hand q_follows q_hasMaster q_isStarved q_held q_sum q_lastError q_lastRate q_goesOn q_points q_at q_then q_experiment q_center q_height q_band q_isUp q_gone q_risings q_second q_greatest q_least q_period q_swing ms_thrown, zAJ cJ q_measure 3 m_measure, zAJ cJ q_before 3 m_before, zAJ cJ q_gain 9 m_gain, zAJ cJ q_setpoint 3 m_setpoint, zAJ cJ q_integral 3 m_integral, zAI cZ q_goesOn 3 m_goesOn]) (va_runV (As := [.int n]) (rest := [.long (m_gain (((3 : Int32) * n) + (2 : Int32)).toNatClampNeg), .long (((1000 : Int64) * ov) - ((m_gain ((3 : Int32) * n).toNatClampNeg) * (f_X6_error_r m_measure m_setpoint n))), .int n, .ref q_integral]) ⟨hx, hb, hml, hown, hts⟩ (c_X6_rate l dC dI cI cJ cZ cO adM ms_samples q_a1 q_a2 q_b q_deadTime q_load q_measure q_before q_past q_gain q_low q_high q_setpoint q_integral q_guard q_share q_mode q_hand q_follows q_hasMaster q_isStarved q_held q_sum q_lastError q_lastRate q_goesOn q_points q_at q_then q_experiment q_center q_height q_band q_isUp q_gone q_risings q_second q_greatest q_least q_period q_swing ms_thrown m_measure m_before n _ hn3) (cwV 1 hts (gd_V wd_4_223 wd_4_225 wd_p_13 wd_1_7 wd_4_226) rfl rfl rfl (by decide +kernel) ⟨Nat.le_of_ble_eq_true rfl, Nat.le_of_ble_eq_true rfl⟩) (hh_pV (ci := 6) (q := (RX6, TX6, 42)) (q0 := 0) rfl rfl gU_c (fun _ _ _ => trivial) hK hP hD [0, 1, 2] rfl rfl) rfl rfl hl.1 rfl (lv_room (Nat.le_of_ble_eq_true rfl)) dX6_settle_37 ⟨Nat.le_of_ble_eq_true rfl, Nat.le_of_ble_eq_true rfl⟩) hP hD hS hA [0, 1, 2] [3, 4, 5, 6] [4, 5, 6, 0, 1, 2, 3] rfl rfl rfl (by decide) rfl rfl (fun H locs hP hD hS => ?_)
  refine lv_lmul hx hb dX6_settle_40 ?_
  refine lv_lsub hx hb dX6_settle_41 ?_
  refine va_last hx hb hK hP hD hS 5 1 rfl rfl (i := n) (ix_of (P := fun n => vp_in n 3) (hn3) (ix_d (by decide)) (ix_d (by decide)) (ix_d (by decide))) dX6_settle_42 (fun H locs hP hD hS => ?_)
  have hP : va_P (dC, dI) vwCl [zX6 adM ms_samples q_a1 q_a2 q_b q_deadTime q_load q_measure q_before q_past q_gain q_low q_high q_setpoint q_integral q_guard q_share q_mode q_hand q_follows q_hasMaster q_isStarved q_held q_sum q_lastError q_lastRate q_goesOn q_points q_at q_then q_experiment q_center q_height q_band q_isUp q_gone q_risings q_second q_greatest q_least q_period q_swing ms_thrown, zAJ cJ q_measure 3 m_measure, zAJ cJ q_before 3 m_before, zAJ cJ q_gain 9 m_gain, zAJ cJ q_setpoint 3 m_setpoint, zAJ cJ q_integral 3 (vp_updL m_integral n.toNatClampNeg ((((1000 : Int64) * ov) - ((m_gain ((3 : Int32) * n).toNatClampNeg) * (f_X6_error_r m_measure m_setpoint n))) - ((m_gain (((3 : Int32) * n) + (2 : Int32)).toNatClampNeg) * (f_X6_rate_r m_measure m_before n)))), zAI cZ q_goesOn 3 m_goesOn] H := hP
  have hD : va_D A [zX6 adM ms_samples q_a1 q_a2 q_b q_deadTime q_load q_measure q_before q_past q_gain q_low q_high q_setpoint q_integral q_guard q_share q_mode q_hand q_follows q_hasMaster q_isStarved q_held q_sum q_lastError q_lastRate q_goesOn q_points q_at q_then q_experiment q_center q_height q_band q_isUp q_gone q_risings q_second q_greatest q_least q_period q_swing ms_thrown, zAJ cJ q_measure 3 m_measure, zAJ cJ q_before 3 m_before, zAJ cJ q_gain 9 m_gain, zAJ cJ q_setpoint 3 m_setpoint, zAJ cJ q_integral 3 (vp_updL m_integral n.toNatClampNeg ((((1000 : Int64) * ov) - ((m_gain ((3 : Int32) * n).toNatClampNeg) * (f_X6_error_r m_measure m_setpoint n))) - ((m_gain (((3 : Int32) * n) + (2 : Int32)).toNatClampNeg) * (f_X6_rate_r m_measure m_before n)))), zAI cZ q_goesOn 3 m_goesOn] := hD
  refine lv_aload_n hx hb dX6_settle_43 rfl (lv_at hl 0 rfl) ?_
  refine va_get (D := (dC, dI)) (ci := 6) (v := .ref q_goesOn) (C := RX6) (T := TX6) (N := 42) hx hb hts inW_X6 hown hK hP 0 rfl rfl 25 (by decide) (hts _ wd_4_81) (fun _ h9 => h9) rfl dX6_settle_44 ?_
  refine lv_iload_n hx hb dX6_settle_47 rfl (lv_at hl 1 rfl) ?_
  refine lv_iconst (v := 0) hx hb dX6_settle_48 (by decide) ?_
  refine va_zast hx hb hK hP hD hS 6 2 rfl rfl (i := n) (ix_of (P := fun n => vp_in n 3) (hn3) (ix_d (by decide)) (ix_d (by decide)) (ix_d (by decide))) dX6_settle_49 (fun H locs hP hD hS => ?_)
  have hP : va_P (dC, dI) vwCl [zX6 adM ms_samples q_a1 q_a2 q_b q_deadTime q_load q_measure q_before q_past q_gain q_low q_high q_setpoint q_integral q_guard q_share q_mode q_hand q_follows q_hasMaster q_isStarved q_held q_sum q_lastError q_lastRate q_goesOn q_points q_at q_then q_experiment q_center q_height q_band q_isUp q_gone q_risings q_second q_greatest q_least q_period q_swing ms_thrown, zAJ cJ q_measure 3 m_measure, zAJ cJ q_before 3 m_before, zAJ cJ q_gain 9 m_gain, zAJ cJ q_setpoint 3 m_setpoint, zAJ cJ q_integral 3 (vp_updL m_integral n.toNatClampNeg ((((1000 : Int64) * ov) - ((m_gain ((3 : Int32) * n).toNatClampNeg) * (f_X6_error_r m_measure m_setpoint n))) - ((m_gain (((3 : Int32) * n) + (2 : Int32)).toNatClampNeg) * (f_X6_rate_r m_measure m_before n)))), zAI cZ q_goesOn 3 (upd m_goesOn n.toNatClampNeg (vp_nar .boolean (0 : Int32)))] H := hP
  have hD : va_D A [zX6 adM ms_samples q_a1 q_a2 q_b q_deadTime q_load q_measure q_before q_past q_gain q_low q_high q_setpoint q_integral q_guard q_share q_mode q_hand q_follows q_hasMaster q_isStarved q_held q_sum q_lastError q_lastRate q_goesOn q_points q_at q_then q_experiment q_center q_height q_band q_isUp q_gone q_risings q_second q_greatest q_least q_period q_swing ms_thrown, zAJ cJ q_measure 3 m_measure, zAJ cJ q_before 3 m_before, zAJ cJ q_gain 9 m_gain, zAJ cJ q_setpoint 3 m_setpoint, zAJ cJ q_integral 3 (vp_updL m_integral n.toNatClampNeg ((((1000 : Int64) * ov) - ((m_gain ((3 : Int32) * n).toNatClampNeg) * (f_X6_error_r m_measure m_setpoint n))) - ((m_gain (((3 : Int32) * n) + (2 : Int32)).toNatClampNeg) * (f_X6_rate_r m_measure m_before n)))), zAI cZ q_goesOn 3 (upd m_goesOn n.toNatClampNeg (vp_nar .boolean (0 : Int32)))] := hD
  exact hh_retv hQ hx hb hr hlocks hP hK hD hS dX6_settle_50
