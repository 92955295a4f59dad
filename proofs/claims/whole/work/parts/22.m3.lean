theorem asked3 {lp : Int32} (h : ¬ f_X6_isAsked_r lp = (0 : Int32)) : lp = 0 ∨ lp = 1 ∨ lp = 2 := by
  refine loop3 (fun hl => h ?_)
  unfold f_X6_isAsked_r f_X6_isAsked_j1_1
  rw [if_pos hl]
  rfl
theorem done3 {m_experiment : Nat → Int32} {lp : Int32} (h : ¬ f_X6_isDone_r m_experiment lp = (0 : Int32)) : lp = 0 ∨ lp = 1 ∨ lp = 2 := by
  refine loop3 (fun hl => h ?_)
  unfold f_X6_isDone_r f_X6_isDone_j1_1
  rw [if_pos hl]
  rfl
def f_X6_measure_j1_1 (m_measure : Nat → Int64) (lp : Int32) : Int64 := if (f_X6_isAsked_r lp) = (0 : Int32) then (0 : Int64) else (m_measure lp.toNatClampNeg)
set_option maxHeartbeats 4000000 in
set_option maxRecDepth 100000 in
theorem c_X6_measure (l : Launch) (dC : Nat → ClassId) (dI : Nat → Nat → Nat) (cI cJ cZ cO : ClassId) (adM : Nat) (ms_samples : Int32) (q_a1 q_a2 q_b q_deadTime q_load q_measure q_before q_past q_gain q_low q_high q_setpoint q_integral q_guard q_share q_mode q_hand q_follows q_hasMaster q_isStarved q_held q_sum q_lastError q_lastRate q_goesOn q_points q_at q_then q_experiment q_center q_height q_band q_isUp q_gone q_risings q_second q_greatest q_least q_period q_swing : Nat) (ms_thrown : Int32) (m_measure : Nat → Int64) (lp : Int32) (sz : Nat)  : Met l yX6_measure (Cond.code yX6_measure cX6_measure 2 (some .long) :: wAll) ({ frames := 2, cells := 0, slots := 0, locals := 42 }) (va_Pc [.ref adM, .int lp] (gP (dC, dI) [zX6 adM ms_samples q_a1 q_a2 q_b q_deadTime q_load q_measure q_before q_past q_gain q_low q_high q_setpoint q_integral q_guard q_share q_mode q_hand q_follows q_hasMaster q_isStarved q_held q_sum q_lastError q_lastRate q_goesOn q_points q_at q_then q_experiment q_center q_height q_band q_isUp q_gone q_risings q_second q_greatest q_least q_period q_swing ms_thrown, zAJ cJ q_measure 3 m_measure] (tyG cI cJ cZ cO) sz gU)) (va_Ql (fun r (_ : Unit) => r = (f_X6_measure_j1_1 m_measure lp)) (fun _ t => gB (dC, dI) (va_A [zX6 adM ms_samples q_a1 q_a2 q_b q_deadTime q_load q_measure q_before q_past q_gain q_low q_high q_setpoint q_integral q_guard q_share q_mode q_hand q_follows q_hasMaster q_isStarved q_held q_sum q_lastError q_lastRate q_goesOn q_points q_at q_then q_experiment q_center q_height q_band q_isUp q_gone q_risings q_second q_greatest q_least q_period q_swing ms_thrown, zAJ cJ q_measure 3 m_measure] sz) [zX6 adM ms_samples q_a1 q_a2 q_b q_deadTime q_load q_measure q_before q_past q_gain q_low q_high q_setpoint q_integral q_guard q_share q_mode q_hand q_follows q_hasMaster q_isStarved q_held q_sum q_lastError q_lastRate q_goesOn q_points q_at q_then q_experiment q_center q_height q_band q_isUp q_gone q_risings q_second q_greatest q_least q_period q_swing (f_X6_isAsked_j1_1 lp), zAJ cJ q_measure 3 m_measure] (tyG cI cJ cZ cO) t) (va_A [zX6 adM ms_samples q_a1 q_a2 q_b q_deadTime q_load q_measure q_before q_past q_gain q_low q_high q_setpoint q_integral q_guard q_share q_mode q_hand q_follows q_hasMaster q_isStarved q_held q_sum q_lastError q_lastRate q_goesOn q_points q_at q_then q_experiment q_center q_height q_band q_isUp q_gone q_risings q_second q_greatest q_least q_period q_swing ms_thrown, zAJ cJ q_measure 3 m_measure] sz)) 0 0 (va_A [zX6 adM ms_samples q_a1 q_a2 q_b q_deadTime q_load q_measure q_before q_past q_gain q_low q_high q_setpoint q_integral q_guard q_share q_mode q_hand q_follows q_hasMaster q_isStarved q_held q_sum q_lastError q_lastRate q_goesOn q_points q_at q_then q_experiment q_center q_height q_band q_isUp q_gone q_risings q_second q_greatest q_least q_period q_swing ms_thrown, zAJ cJ q_measure 3 m_measure] sz) := by
  refine Met.ofW (cc := cX6_measure) (maxL := 2) (ret := (some .long)) (by decide) rfl ?_
  intro p e s m args below meth c s₁ B hml hv
  obtain ⟨rfl, hsz, hP, hK, hD0, hG⟩ := hv
  have hx := B.exec
  have hb := B.bytes
  have hr := B.returns
  have hts := ht_of B.pre
  have hown : s.vm.findClass RX6 = some m.cls := findClass_of_methodNamed B.named
  have hlocks := B.notSynchronized
  subst hsz
  have hD := hD0.self (sz := s.heap.size)
  generalize hAe : va_A [zX6 adM ms_samples q_a1 q_a2 q_b q_deadTime q_load q_measure q_before q_past q_gain q_low q_high q_setpoint q_integral q_guard q_share q_mode q_hand q_follows q_hasMaster q_isStarved q_held q_sum q_lastError q_lastRate q_goesOn q_points q_at q_then q_experiment q_center q_height q_band q_isUp q_gone q_risings q_second q_greatest q_least q_period q_swing ms_thrown, zAJ cJ q_measure 3 m_measure] s.heap.size = A at hD ⊢
  have hA : ∀ q : Nat, s.heap.size ≤ q → A q := fun q h => by rw [← hAe]; exact Or.inr h
  have hS : va_S A s.heap s.heap [] := va_S.rf
  have hP : va_P (dC, dI) vwCl [zX6 adM ms_samples q_a1 q_a2 q_b q_deadTime q_load q_measure q_before q_past q_gain q_low q_high q_setpoint q_integral q_guard q_share q_mode q_hand q_follows q_hasMaster q_isStarved q_held q_sum q_lastError q_lastRate q_goesOn q_points q_at q_then q_experiment q_center q_height q_band q_isUp q_gone q_risings q_second q_greatest q_least q_period q_swing ms_thrown, zAJ cJ q_measure 3 m_measure] s.heap := hP
  have hl := lv_entry ([.ref adM, .int lp]) (n := 2) (Nat.le_of_ble_eq_true rfl)
  rw [lg_entry_eq]
  generalize (lg_sl ([.ref adM, .int lp]) ++ List.replicate (2 - (lg_sl ([.ref adM, .int lp])).length) Slot.unset).toArray = ls at hl ⊢
  have hl : lv_has ls 2 [(0, .ref adM), (1, .int lp)] := hl
  refine hh_name (fun Q hQ => ?_)
  refine lv_aload_n hx hb dX6_measure_0 rfl (lv_at hl 0 rfl) ?_
  refine lv_iload_n hx hb dX6_measure_1 rfl (lv_at hl 1 rfl) ?_
  refine hh_calli (w2 := [zX6 adM ms_samples q_a1 q_a2 q_b q_deadTime q_load q_measure q_before q_past q_gain q_low q_high q_setpoint q_integral q_guard q_share q_mode q_hand q_follows q_hasMaster q_isStarved q_held q_sum q_lastError q_lastRate q_goesOn q_points q_at q_then q_experiment q_center q_height q_band q_isUp q_gone q_risings q_second q_greatest q_least q_period q_swing (f_X6_isAsked_j1_1 lp), zAJ cJ q_measure 3 m_measure]) (va_runV (As := [.int lp]) (rest := []) ⟨hx, hb, hml, hown, hts⟩ (c_X6_isAsked l dC dI cI cJ cZ cO adM ms_samples q_a1 q_a2 q_b q_deadTime q_load q_measure q_before q_past q_gain q_low q_high q_setpoint q_integral q_guard q_share q_mode q_hand q_follows q_hasMaster q_isStarved q_held q_sum q_lastError q_lastRate q_goesOn q_points q_at q_then q_experiment q_center q_height q_band q_isUp q_gone q_risings q_second q_greatest q_least q_period q_swing ms_thrown lp _) (cwV 1 hts (gd_V wd_5_65 wd_5_67 wd_p_22 wd_1_7 wd_5_68) rfl rfl rfl (by decide +kernel) ⟨Nat.le_of_ble_eq_true rfl, Nat.le_of_ble_eq_true rfl⟩) (hh_pV (ci := 6) (q := (RX6, TX6, 42)) (q0 := 0) rfl rfl gU_c (fun _ _ _ => trivial) hK hP hD [0] rfl rfl) rfl rfl hl.1 rfl (lv_room (Nat.le_of_ble_eq_true rfl)) dX6_measure_2 ⟨Nat.le_of_ble_eq_true rfl, Nat.le_of_ble_eq_true rfl⟩) hP hD hS hA [0] [1] [1, 0] rfl rfl rfl (by decide) rfl rfl (fun H locs hP hD hS => ?_)
  have J1 : ∀ (H : Heap) (locs : List Loc) (ls : Array Slot), va_P (dC, dI) vwCl [zX6 adM ms_samples q_a1 q_a2 q_b q_deadTime q_load q_measure q_before q_past q_gain q_low q_high q_setpoint q_integral q_guard q_share q_mode q_hand q_follows q_hasMaster q_isStarved q_held q_sum q_lastError q_lastRate q_goesOn q_points q_at q_then q_experiment q_center q_height q_band q_isUp q_gone q_risings q_second q_greatest q_least q_period q_swing (f_X6_isAsked_j1_1 lp), zAJ cJ q_measure 3 m_measure] H → va_D A [zX6 adM ms_samples q_a1 q_a2 q_b q_deadTime q_load q_measure q_before q_past q_gain q_low q_high q_setpoint q_integral q_guard q_share q_mode q_hand q_follows q_hasMaster q_isStarved q_held q_sum q_lastError q_lastRate q_goesOn q_points q_at q_then q_experiment q_center q_height q_band q_isUp q_gone q_risings q_second q_greatest q_least q_period q_swing (f_X6_isAsked_j1_1 lp), zAJ cJ q_measure 3 m_measure] → va_S A s.heap H locs → lv_has ls 2 [(0, .ref adM), (1, .int lp)] → W p l e (headSpec (Cond.code yX6_measure cX6_measure 2 (some .long) :: wAll) ({ frames := 2, cells := 0, slots := 0, locals := 42 })).room s m ([.ref adM, .int lp] : List Value).toArray below meth c H locs 0 0 Q (F0 m 18 ls [.long (f_X6_measure_j1_1 m_measure lp)]) := by
    intro H locs ls hP hD hS hl
    exact hh_retl hQ (rfl) hx hb hr hlocks hP hK hD hS dX6_measure_18
  refine lv_if_eq (tgt := 17) hx hb dX6_measure_5 (by decide) (fun h1 => ?_) (fun h1 => ?_)
  · skip
    refine lv_lconst (v := 0) hx hb dX6_measure_17 (by decide) ?_
    have e2 : (f_X6_measure_j1_1 m_measure lp) = (0 : Int64) := if_pos h1
    refine hh_setl (y := (f_X6_measure_j1_1 m_measure lp)) (if_pos h1) ?_
    exact J1 _ _ _ (hP) (hD) hS (lv_sub hl [0, 1] rfl)
  · skip
    refine lv_aload_n hx hb dX6_measure_8 rfl (lv_at hl 0 rfl) ?_
    refine va_get (D := (dC, dI)) (ci := 6) (v := .ref q_measure) (C := RX6) (T := TX6) (N := 42) hx hb hts inW_X6 hown hK hP 0 rfl rfl 6 (by decide) (hts _ wd_4_62) (fun _ h9 => h9) rfl dX6_measure_9 ?_
    refine lv_iload_n hx hb dX6_measure_12 rfl (lv_at hl 1 rfl) ?_
    refine va_lald hx hb hK hP 1 1 rfl rfl (i := lp) (ix_of (P := fun lp => vp_in lp 3) (asked3 (by assumption)) (ix_d (by decide)) (ix_d (by decide)) (ix_d (by decide))) dX6_measure_13 ?_
    refine lv_goto (tgt := 18) hx hb dX6_measure_14 (by decide) ?_
    have e3 : (f_X6_measure_j1_1 m_measure lp) = (m_measure lp.toNatClampNeg) := if_neg h1
    refine hh_setl (y := (f_X6_measure_j1_1 m_measure lp)) (if_neg h1) ?_
    exact J1 _ _ _ (hP) (hD) hS (lv_sub hl [0, 1] rfl)
def f_X6_output_j1_1 (m_past : Nat → Int64) (lp : Int32) : Int64 := if (f_X6_isAsked_r lp) = (0 : Int32) then (0 : Int64) else (f_X6_latest_r m_past lp)
set_option maxHeartbeats 4000000 in
set_option maxRecDepth 100000 in
theorem c_X6_output (l : Launch) (dC : Nat → ClassId) (dI : Nat → Nat → Nat) (cI cJ cZ cO : ClassId) (adM : Nat) (ms_samples : Int32) (q_a1 q_a2 q_b q_deadTime q_load q_measure q_before q_past q_gain q_low q_high q_setpoint q_integral q_guard q_share q_mode q_hand q_follows q_hasMaster q_isStarved q_held q_sum q_lastError q_lastRate q_goesOn q_points q_at q_then q_experiment q_center q_height q_band q_isUp q_gone q_risings q_second q_greatest q_least q_period q_swing : Nat) (ms_thrown : Int32) (m_past : Nat → Int64) (lp : Int32) (sz : Nat)  : Met l yX6_output (Cond.code yX6_output cX6_output 2 (some .long) :: wAll) ({ frames := 2, cells := 0, slots := 0, locals := 42 }) (va_Pc [.ref adM, .int lp] (gP (dC, dI) [zX6 adM ms_samples q_a1 q_a2 q_b q_deadTime q_load q_measure q_before q_past q_gain q_low q_high q_setpoint q_integral q_guard q_share q_mode q_hand q_follows q_hasMaster q_isStarved q_held q_sum q_lastError q_lastRate q_goesOn q_points q_at q_then q_experiment q_center q_height q_band q_isUp q_gone q_risings q_second q_greatest q_least q_period q_swing ms_thrown, zAJ cJ q_past 33 m_past] (tyG cI cJ cZ cO) sz gU)) (va_Ql (fun r (_ : Unit) => r = (f_X6_output_j1_1 m_past lp)) (fun _ t => gB (dC, dI) (va_A [zX6 adM ms_samples q_a1 q_a2 q_b q_deadTime q_load q_measure q_before q_past q_gain q_low q_high q_setpoint q_integral q_guard q_share q_mode q_hand q_follows q_hasMaster q_isStarved q_held q_sum q_lastError q_lastRate q_goesOn q_points q_at q_then q_experiment q_center q_height q_band q_isUp q_gone q_risings q_second q_greatest q_least q_period q_swing ms_thrown, zAJ cJ q_past 33 m_past] sz) [zX6 adM ms_samples q_a1 q_a2 q_b q_deadTime q_load q_measure q_before q_past q_gain q_low q_high q_setpoint q_integral q_guard q_share q_mode q_hand q_follows q_hasMaster q_isStarved q_held q_sum q_lastError q_lastRate q_goesOn q_points q_at q_then q_experiment q_center q_height q_band q_isUp q_gone q_risings q_second q_greatest q_least q_period q_swing (f_X6_isAsked_j1_1 lp), zAJ cJ q_past 33 m_past] (tyG cI cJ cZ cO) t) (va_A [zX6 adM ms_samples q_a1 q_a2 q_b q_deadTime q_load q_measure q_before q_past q_gain q_low q_high q_setpoint q_integral q_guard q_share q_mode q_hand q_follows q_hasMaster q_isStarved q_held q_sum q_lastError q_lastRate q_goesOn q_points q_at q_then q_experiment q_center q_height q_band q_isUp q_gone q_risings q_second q_greatest q_least q_period q_swing ms_thrown, zAJ cJ q_past 33 m_past] sz)) 0 0 (va_A [zX6 adM ms_samples q_a1 q_a2 q_b q_deadTime q_load q_measure q_before q_past q_gain q_low q_high q_setpoint q_integral q_guard q_share q_mode q_hand q_follows q_hasMaster q_isStarved q_held q_sum q_lastError q_lastRate q_goesOn q_points q_at q_then q_experiment q_center q_height q_band q_isUp q_gone q_risings q_second q_greatest q_least q_period q_swing ms_thrown, zAJ cJ q_past 33 m_past] sz) := by
  refine Met.ofW (cc := cX6_output) (maxL := 2) (ret := (some .long)) (by decide) rfl ?_
  intro p e s m args below meth c s₁ B hml hv
  obtain ⟨rfl, hsz, hP, hK, hD0, hG⟩ := hv
  have hx := B.exec
  have hb := B.bytes
  have hr := B.returns
  have hts := ht_of B.pre
  have hown : s.vm.findClass RX6 = some m.cls := findClass_of_methodNamed B.named
  have hlocks := B.notSynchronized
  subst hsz
  have hD := hD0.self (sz := s.heap.size)
  generalize hAe : va_A [zX6 adM ms_samples q_a1 q_a2 q_b q_deadTime q_load q_measure q_before q_past q_gain q_low q_high q_setpoint q_integral q_guard q_share q_mode q_hand q_follows q_hasMaster q_isStarved q_held q_sum q_lastError q_lastRate q_goesOn q_points q_at q_then q_experiment q_center q_height q_band q_isUp q_gone q_risings q_second q_greatest q_least q_period q_swing ms_thrown, zAJ cJ q_past 33 m_past] s.heap.size = A at hD ⊢
  have hA : ∀ q : Nat, s.heap.size ≤ q → A q := fun q h => by rw [← hAe]; exact Or.inr h
  have hS : va_S A s.heap s.heap [] := va_S.rf
  have hP : va_P (dC, dI) vwCl [zX6 adM ms_samples q_a1 q_a2 q_b q_deadTime q_load q_measure q_before q_past q_gain q_low q_high q_setpoint q_integral q_guard q_share q_mode q_hand q_follows q_hasMaster q_isStarved q_held q_sum q_lastError q_lastRate q_goesOn q_points q_at q_then q_experiment q_center q_height q_band q_isUp q_gone q_risings q_second q_greatest q_least q_period q_swing ms_thrown, zAJ cJ q_past 33 m_past] s.heap := hP
  have hl := lv_entry ([.ref adM, .int lp]) (n := 2) (Nat.le_of_ble_eq_true rfl)
  rw [lg_entry_eq]
  generalize (lg_sl ([.ref adM, .int lp]) ++ List.replicate (2 - (lg_sl ([.ref adM, .int lp])).length) Slot.unset).toArray = ls at hl ⊢
  have hl : lv_has ls 2 [(0, .ref adM), (1, .int lp)] := hl
  refine hh_name (fun Q hQ => ?_)
  refine lv_aload_n hx hb dX6_output_0 rfl (lv_at hl 0 rfl) ?_
  refine lv_iload_n hx hb dX6_output_1 rfl (lv_at hl 1 rfl) ?_
  refine hh_calli (w2 := [zX6 adM ms_samples q_a1 q_a2 q_b q_deadTime q_load q_measure q_before q_past q_gain q_low q_high q_setpoint q_integral q_guard q_share q_mode q_hand q_follows q_hasMaster q_isStarved q_held q_sum q_lastError q_lastRate q_goesOn q_points q_at q_then q_experiment q_center q_height q_band q_isUp q_gone q_risings q_second q_greatest q_least q_period q_swing (f_X6_isAsked_j1_1 lp), zAJ cJ q_past 33 m_past]) (va_runV (As := [.int lp]) (rest := []) ⟨hx, hb, hml, hown, hts⟩ (c_X6_isAsked l dC dI cI cJ cZ cO adM ms_samples q_a1 q_a2 q_b q_deadTime q_load q_measure q_before q_past q_gain q_low q_high q_setpoint q_integral q_guard q_share q_mode q_hand q_follows q_hasMaster q_isStarved q_held q_sum q_lastError q_lastRate q_goesOn q_points q_at q_then q_experiment q_center q_height q_band q_isUp q_gone q_risings q_second q_greatest q_least q_period q_swing ms_thrown lp _) (cwV 1 hts (gd_V wd_5_65 wd_5_67 wd_p_22 wd_1_7 wd_5_68) rfl rfl rfl (by decide +kernel) ⟨Nat.le_of_ble_eq_true rfl, Nat.le_of_ble_eq_true rfl⟩) (hh_pV (ci := 6) (q := (RX6, TX6, 42)) (q0 := 0) rfl rfl gU_c (fun _ _ _ => trivial) hK hP hD [0] rfl rfl) rfl rfl hl.1 rfl (lv_room (Nat.le_of_ble_eq_true rfl)) dX6_output_2 ⟨Nat.le_of_ble_eq_true rfl, Nat.le_of_ble_eq_true rfl⟩) hP hD hS hA [0] [1] [1, 0] rfl rfl rfl (by decide) rfl rfl (fun H locs hP hD hS => ?_)
  have J1 : ∀ (H : Heap) (locs : List Loc) (ls : Array Slot), va_P (dC, dI) vwCl [zX6 adM ms_samples q_a1 q_a2 q_b q_deadTime q_load q_measure q_before q_past q_gain q_low q_high q_setpoint q_integral q_guard q_share q_mode q_hand q_follows q_hasMaster q_isStarved q_held q_sum q_lastError q_lastRate q_goesOn q_points q_at q_then q_experiment q_center q_height q_band q_isUp q_gone q_risings q_second q_greatest q_least q_period q_swing (f_X6_isAsked_j1_1 lp), zAJ cJ q_past 33 m_past] H → va_D A [zX6 adM ms_samples q_a1 q_a2 q_b q_deadTime q_load q_measure q_before q_past q_gain q_low q_high q_setpoint q_integral q_guard q_share q_mode q_hand q_follows q_hasMaster q_isStarved q_held q_sum q_lastError q_lastRate q_goesOn q_points q_at q_then q_experiment q_center q_height q_band q_isUp q_gone q_risings q_second q_greatest q_least q_period q_swing (f_X6_isAsked_j1_1 lp), zAJ cJ q_past 33 m_past] → va_S A s.heap H locs → lv_has ls 2 [(0, .ref adM), (1, .int lp)] → W p l e (headSpec (Cond.code yX6_output cX6_output 2 (some .long) :: wAll) ({ frames := 2, cells := 0, slots := 0, locals := 42 })).room s m ([.ref adM, .int lp] : List Value).toArray below meth c H locs 0 0 Q (F0 m 17 ls [.long (f_X6_output_j1_1 m_past lp)]) := by
    intro H locs ls hP hD hS hl
    exact hh_retl hQ (rfl) hx hb hr hlocks hP hK hD hS dX6_output_17
  refine lv_if_eq (tgt := 16) hx hb dX6_output_5 (by decide) (fun h1 => ?_) (fun h1 => ?_)
  · skip
    refine lv_lconst (v := 0) hx hb dX6_output_16 (by decide) ?_
    have e2 : (f_X6_output_j1_1 m_past lp) = (0 : Int64) := if_pos h1
    refine hh_setl (y := (f_X6_output_j1_1 m_past lp)) (if_pos h1) ?_
    exact J1 _ _ _ (hP) (hD) hS (lv_sub hl [0, 1] rfl)
  · skip
    refine lv_aload_n hx hb dX6_output_8 rfl (lv_at hl 0 rfl) ?_
    refine lv_iload_n hx hb dX6_output_9 rfl (lv_at hl 1 rfl) ?_
    refine hh_calll (w2 := [zX6 adM ms_samples q_a1 q_a2 q_b q_deadTime q_load q_measure q_before q_past q_gain q_low q_high q_setpoint q_integral q_guard q_share q_mode q_hand q_follows q_hasMaster q_isStarved q_held q_sum q_lastError q_lastRate q_goesOn q_points q_at q_then q_experiment q_center q_height q_band q_isUp q_gone q_risings q_second q_greatest q_least q_period q_swing (f_X6_isAsked_j1_1 lp), zAJ cJ q_past 33 m_past]) (va_runV (As := [.int lp]) (rest := []) ⟨hx, hb, hml, hown, hts⟩ (c_X6_latest l dC dI cI cJ cZ cO adM ms_samples q_a1 q_a2 q_b q_deadTime q_load q_measure q_before q_past q_gain q_low q_high q_setpoint q_integral q_guard q_share q_mode q_hand q_follows q_hasMaster q_isStarved q_held q_sum q_lastError q_lastRate q_goesOn q_points q_at q_then q_experiment q_center q_height q_band q_isUp q_gone q_risings q_second q_greatest q_least q_period q_swing (f_X6_isAsked_j1_1 lp) m_past lp _ (asked3 (by assumption))) (cwV 1 hts (gd_V wd_5_17 wd_5_19 wd_p_14 wd_1_7 wd_5_20) rfl rfl rfl (by decide +kernel) ⟨Nat.le_of_ble_eq_true rfl, Nat.le_of_ble_eq_true rfl⟩) (hh_pV (ci := 6) (q := (RX6, TX6, 42)) (q0 := 0) rfl rfl gU_c (fun _ _ _ => trivial) hK hP hD [0, 1] rfl rfl) rfl rfl hl.1 rfl (lv_room (Nat.le_of_ble_eq_true rfl)) dX6_output_10 ⟨Nat.le_of_ble_eq_true rfl, Nat.le_of_ble_eq_true rfl⟩) hP hD hS hA [0, 1] [] [0, 1] rfl rfl rfl (by decide) rfl rfl (fun H locs hP hD hS => ?_)
    refine lv_goto (tgt := 17) hx hb dX6_output_13 (by decide) ?_
    have e3 : (f_X6_output_j1_1 m_past lp) = (f_X6_latest_r m_past lp) := if_neg h1
    refine hh_setl (y := (f_X6_output_j1_1 m_past lp)) (if_neg h1) ?_
    exact J1 _ _ _ (hP) (hD) hS (lv_sub hl [0, 1] rfl)
def f_X6_outputByIncrements_j1_1 (m_sum : Nat → Int64) (lp : Int32) : Int64 := if (f_X6_isAsked_r lp) = (0 : Int32) then (0 : Int64) else (f_X6_floor_j1_1 (m_sum lp.toNatClampNeg) (1000 : Int64))
set_option maxHeartbeats 4000000 in
set_option maxRecDepth 100000 in
theorem c_X6_outputByIncrements (l : Launch) (dC : Nat → ClassId) (dI : Nat → Nat → Nat) (cI cJ cZ cO : ClassId) (adM : Nat) (ms_samples : Int32) (q_a1 q_a2 q_b q_deadTime q_load q_measure q_before q_past q_gain q_low q_high q_setpoint q_integral q_guard q_share q_mode q_hand q_follows q_hasMaster q_isStarved q_held q_sum q_lastError q_lastRate q_goesOn q_points q_at q_then q_experiment q_center q_height q_band q_isUp q_gone q_risings q_second q_greatest q_least q_period q_swing : Nat) (ms_thrown : Int32) (m_sum : Nat → Int64) (lp : Int32) (sz : Nat)  : Met l yX6_outputByIncrements (Cond.code yX6_outputByIncrements cX6_outputByIncrements 2 (some .long) :: wAll) ({ frames := 2, cells := 0, slots := 0, locals := 42 }) (va_Pc [.ref adM, .int lp] (gP (dC, dI) [zX6 adM ms_samples q_a1 q_a2 q_b q_deadTime q_load q_measure q_before q_past q_gain q_low q_high q_setpoint q_integral q_guard q_share q_mode q_hand q_follows q_hasMaster q_isStarved q_held q_sum q_lastError q_lastRate q_goesOn q_points q_at q_then q_experiment q_center q_height q_band q_isUp q_gone q_risings q_second q_greatest q_least q_period q_swing ms_thrown, zAJ cJ q_sum 3 m_sum] (tyG cI cJ cZ cO) sz gU)) (va_Ql (fun r (_ : Unit) => r = (f_X6_outputByIncrements_j1_1 m_sum lp)) (fun _ t => gB (dC, dI) (va_A [zX6 adM ms_samples q_a1 q_a2 q_b q_deadTime q_load q_measure q_before q_past q_gain q_low q_high q_setpoint q_integral q_guard q_share q_mode q_hand q_follows q_hasMaster q_isStarved q_held q_sum q_lastError q_lastRate q_goesOn q_points q_at q_then q_experiment q_center q_height q_band q_isUp q_gone q_risings q_second q_greatest q_least q_period q_swing ms_thrown, zAJ cJ q_sum 3 m_sum] sz) [zX6 adM ms_samples q_a1 q_a2 q_b q_deadTime q_load q_measure q_before q_past q_gain q_low q_high q_setpoint q_integral q_guard q_share q_mode q_hand q_follows q_hasMaster q_isStarved q_held q_sum q_lastError q_lastRate q_goesOn q_points q_at q_then q_experiment q_center q_height q_band q_isUp q_gone q_risings q_second q_greatest q_least q_period q_swing (f_X6_isAsked_j1_1 lp), zAJ cJ q_sum 3 m_sum] (tyG cI cJ cZ cO) t) (va_A [zX6 adM ms_samples q_a1 q_a2 q_b q_deadTime q_load q_measure q_before q_past q_gain q_low q_high q_setpoint q_integral q_guard q_share q_mode q_hand q_follows q_hasMaster q_isStarved q_held q_sum q_lastError q_lastRate q_goesOn q_points q_at q_then q_experiment q_center q_height q_band q_isUp q_gone q_risings q_second q_greatest q_least q_period q_swing ms_thrown, zAJ cJ q_sum 3 m_sum] sz)) 0 0 (va_A [zX6 adM ms_samples q_a1 q_a2 q_b q_deadTime q_load q_measure q_before q_past q_gain q_low q_high q_setpoint q_integral q_guard q_share q_mode q_hand q_follows q_hasMaster q_isStarved q_held q_sum q_lastError q_lastRate q_goesOn q_points q_at q_then q_experiment q_center q_height q_band q_isUp q_gone q_risings q_second q_greatest q_least q_period q_swing ms_thrown, zAJ cJ q_sum 3 m_sum] sz) := by
  refine Met.ofW (cc := cX6_outputByIncrements) (maxL := 2) (ret := (some .long)) (by decide) rfl ?_
  intro p e s m args below meth c s₁ B hml hv
  obtain ⟨rfl, hsz, hP, hK, hD0, hG⟩ := hv
  have hx := B.exec
  have hb := B.bytes
  have hr := B.returns
  have hts := ht_of B.pre
  have hown : s.vm.findClass RX6 = some m.cls := findClass_of_methodNamed B.named
  have hlocks := B.notSynchronized
  subst hsz
  have hD := hD0.self (sz := s.heap.size)
  generalize hAe : va_A [zX6 adM ms_samples q_a1 q_a2 q_b q_deadTime q_load q_measure q_before q_past q_gain q_low q_high q_setpoint q_integral q_guard q_share q_mode q_hand q_follows q_hasMaster q_isStarved q_held q_sum q_lastError q_lastRate q_goesOn q_points q_at q_then q_experiment q_center q_height q_band q_isUp q_gone q_risings q_second q_greatest q_least q_period q_swing ms_thrown, zAJ cJ q_sum 3 m_sum] s.heap.size = A at hD ⊢
  have hA : ∀ q : Nat, s.heap.size ≤ q → A q := fun q h => by rw [← hAe]; exact Or.inr h
  have hS : va_S A s.heap s.heap [] := va_S.rf
  have hP : va_P (dC, dI) vwCl [zX6 adM ms_samples q_a1 q_a2 q_b q_deadTime q_load q_measure q_before q_past q_gain q_low q_high q_setpoint q_integral q_guard q_share q_mode q_hand q_follows q_hasMaster q_isStarved q_held q_sum q_lastError q_lastRate q_goesOn q_points q_at q_then q_experiment q_center q_height q_band q_isUp q_gone q_risings q_second q_greatest q_least q_period q_swing ms_thrown, zAJ cJ q_sum 3 m_sum] s.heap := hP
  have hl := lv_entry ([.ref adM, .int lp]) (n := 2) (Nat.le_of_ble_eq_true rfl)
  rw [lg_entry_eq]
  generalize (lg_sl ([.ref adM, .int lp]) ++ List.replicate (2 - (lg_sl ([.ref adM, .int lp])).length) Slot.unset).toArray = ls at hl ⊢
  have hl : lv_has ls 2 [(0, .ref adM), (1, .int lp)] := hl
  refine hh_name (fun Q hQ => ?_)
  refine lv_aload_n hx hb dX6_outputByIncrements_0 rfl (lv_at hl 0 rfl) ?_
  refine lv_iload_n hx hb dX6_outputByIncrements_1 rfl (lv_at hl 1 rfl) ?_
  refine hh_calli (w2 := [zX6 adM ms_samples q_a1 q_a2 q_b q_deadTime q_load q_measure q_before q_past q_gain q_low q_high q_setpoint q_integral q_guard q_share q_mode q_hand q_follows q_hasMaster q_isStarved q_held q_sum q_lastError q_lastRate q_goesOn q_points q_at q_then q_experiment q_center q_height q_band q_isUp q_gone q_risings q_second q_greatest q_least q_period q_swing (f_X6_isAsked_j1_1 lp), zAJ cJ q_sum 3 m_sum]) (va_runV (As := [.int lp]) (rest := []) ⟨hx, hb, hml, hown, hts⟩ (c_X6_isAsked l dC dI cI cJ cZ cO adM ms_samples q_a1 q_a2 q_b q_deadTime q_load q_measure q_before q_past q_gain q_low q_high q_setpoint q_integral q_guard q_share q_mode q_hand q_follows q_hasMaster q_isStarved q_held q_sum q_lastError q_lastRate q_goesOn q_points q_at q_then q_experiment q_center q_height q_band q_isUp q_gone q_risings q_second q_greatest q_least q_period q_swing ms_thrown lp _) (cwV 1 hts (gd_V wd_5_65 wd_5_67 wd_p_22 wd_1_7 wd_5_68) rfl rfl rfl (by decide +kernel) ⟨Nat.le_of_ble_eq_true rfl, Nat.le_of_ble_eq_true rfl⟩) (hh_pV (ci := 6) (q := (RX6, TX6, 42)) (q0 := 0) rfl rfl gU_c (fun _ _ _ => trivial) hK hP hD [0] rfl rfl) rfl rfl hl.1 rfl (lv_room (Nat.le_of_ble_eq_true rfl)) dX6_outputByIncrements_2 ⟨Nat.le_of_ble_eq_true rfl, Nat.le_of_ble_eq_true rfl⟩) hP hD hS hA [0] [1] [1, 0] rfl rfl rfl (by decide) rfl rfl (fun H locs hP hD hS => ?_)
  have J1 : ∀ (H : Heap) (locs : List Loc) (ls : Array Slot), va_P (dC, dI) vwCl [zX6 adM ms_samples q_a1 q_a2 q_b q_deadTime q_load q_measure q_before q_past q_gain q_low q_high q_setpoint q_integral q_guard q_share q_mode q_hand q_follows q_hasMaster q_isStarved q_held q_sum q_lastError q_lastRate q_goesOn q_points q_at q_then q_experiment q_center q_height q_band q_isUp q_gone q_risings q_second q_greatest q_least q_period q_swing (f_X6_isAsked_j1_1 lp), zAJ cJ q_sum 3 m_sum] H → va_D A [zX6 adM ms_samples q_a1 q_a2 q_b q_deadTime q_load q_measure q_before q_past q_gain q_low q_high q_setpoint q_integral q_guard q_share q_mode q_hand q_follows q_hasMaster q_isStarved q_held q_sum q_lastError q_lastRate q_goesOn q_points q_at q_then q_experiment q_center q_height q_band q_isUp q_gone q_risings q_second q_greatest q_least q_period q_swing (f_X6_isAsked_j1_1 lp), zAJ cJ q_sum 3 m_sum] → va_S A s.heap H locs → lv_has ls 2 [(0, .ref adM), (1, .int lp)] → W p l e (headSpec (Cond.code yX6_outputByIncrements cX6_outputByIncrements 2 (some .long) :: wAll) ({ frames := 2, cells := 0, slots := 0, locals := 42 })).room s m ([.ref adM, .int lp] : List Value).toArray below meth c H locs 0 0 Q (F0 m 24 ls [.long (f_X6_outputByIncrements_j1_1 m_sum lp)]) := by
    intro H locs ls hP hD hS hl
    exact hh_retl hQ (rfl) hx hb hr hlocks hP hK hD hS dX6_outputByIncrements_24
  refine lv_if_eq (tgt := 23) hx hb dX6_outputByIncrements_5 (by decide) (fun h1 => ?_) (fun h1 => ?_)
  · skip
    refine lv_lconst (v := 0) hx hb dX6_outputByIncrements_23 (by decide) ?_
    have e2 : (f_X6_outputByIncrements_j1_1 m_sum lp) = (0 : Int64) := if_pos h1
    refine hh_setl (y := (f_X6_outputByIncrements_j1_1 m_sum lp)) (if_pos h1) ?_
    exact J1 _ _ _ (hP) (hD) hS (lv_sub hl [0, 1] rfl)
  · skip
    refine lv_aload_n hx hb dX6_outputByIncrements_8 rfl (lv_at hl 0 rfl) ?_
    refine va_get (D := (dC, dI)) (ci := 6) (v := .ref q_sum) (C := RX6) (T := TX6) (N := 42) hx hb hts inW_X6 hown hK hP 0 rfl rfl 22 (by decide) (hts _ wd_4_78) (fun _ h9 => h9) rfl dX6_outputByIncrements_9 ?_
    refine lv_iload_n hx hb dX6_outputByIncrements_12 rfl (lv_at hl 1 rfl) ?_
    refine va_lald hx hb hK hP 1 1 rfl rfl (i := lp) (ix_of (P := fun lp => vp_in lp 3) (asked3 (by assumption)) (ix_d (by decide)) (ix_d (by decide)) (ix_d (by decide))) dX6_outputByIncrements_13 ?_
    refine lv_ldc2 (v := 1000) hx hb hown (hts _ wd_4_53) dX6_outputByIncrements_14 ?_
    refine hh_calll (w2 := [zX6 adM ms_samples q_a1 q_a2 q_b q_deadTime q_load q_measure q_before q_past q_gain q_low q_high q_setpoint q_integral q_guard q_share q_mode q_hand q_follows q_hasMaster q_isStarved q_held q_sum q_lastError q_lastRate q_goesOn q_points q_at q_then q_experiment q_center q_height q_band q_isUp q_gone q_risings q_second q_greatest q_least q_period q_swing (f_X6_isAsked_j1_1 lp), zAJ cJ q_sum 3 m_sum]) (va_runS (As := [.long (m_sum lp.toNatClampNeg), .long (1000 : Int64)]) (rest := []) ⟨hx, hb, hml, hown, hts⟩ (c_X6_floor l dC dI cI cJ cZ cO (m_sum lp.toNatClampNeg) (1000 : Int64) _ (by decide)) (va_cwS 2 hts (gd_S wd_5_56 wd_5_57 wd_1_7 wd_5_58) rfl rfl rfl (by decide +kernel) ⟨Nat.le_of_ble_eq_true rfl, Nat.le_of_ble_eq_true rfl⟩) (hh_pS gU_c (fun _ _ _ => trivial) hK hP hD [] rfl rfl) rfl rfl hl.1 rfl (lv_room (Nat.le_of_ble_eq_true rfl)) dX6_outputByIncrements_17 ⟨Nat.le_of_ble_eq_true rfl, Nat.le_of_ble_eq_true rfl⟩) hP hD hS hA [] [0, 1] [0, 1] rfl rfl rfl (by decide) rfl rfl (fun H locs hP hD hS => ?_)
    refine lv_goto (tgt := 24) hx hb dX6_outputByIncrements_20 (by decide) ?_
    have e3 : (f_X6_outputByIncrements_j1_1 m_sum lp) = (f_X6_floor_j1_1 (m_sum lp.toNatClampNeg) (1000 : Int64)) := if_neg h1
    refine hh_setl (y := (f_X6_outputByIncrements_j1_1 m_sum lp)) (if_neg h1) ?_
    exact J1 _ _ _ (hP) (hD) hS (lv_sub hl [0, 1] rfl)
def f_X6_setpoint_j1_1 (m_setpoint : Nat → Int64) (lp : Int32) : Int64 := if (f_X6_isAsked_r lp) = (0 : Int32) then (0 : Int64) else (m_setpoint lp.toNatClampNeg)
set_option maxHeartbeats 4000000 in
set_option maxRecDepth 100000 in
theorem c_X6_setpoint (l : Launch) (dC : Nat → ClassId) (dI : Nat → Nat → Nat) (cI cJ cZ cO : ClassId) (adM : Nat) (ms_samples : Int32) (q_a1 q_a2 q_b q_deadTime q_load q_measure q_before q_past q_gain q_low q_high q_setpoint q_integral q_guard q_share q_mode q_hand q_follows q_hasMaster q_isStarved q_held q_sum q_lastError q_lastRate q_goesOn q_points q_at q_then q_experiment q_center q_height q_band q_isUp q_gone q_risings q_second q_greatest q_least q_period q_swing : Nat) (ms_thrown : Int32) (m_setpoint : Nat → Int64) (lp : Int32) (sz : Nat)  : Met l yX6_setpoint (Cond.code yX6_setpoint cX6_setpoint 2 (some .long) :: wAll) ({ frames := 2, cells := 0, slots := 0, locals := 42 }) (va_Pc [.ref adM, .int lp] (gP (dC, dI) [zX6 adM ms_samples q_a1 q_a2 q_b q_deadTime q_load q_measure q_before q_past q_gain q_low q_high q_setpoint q_integral q_guard q_share q_mode q_hand q_follows q_hasMaster q_isStarved q_held q_sum q_lastError q_lastRate q_goesOn q_points q_at q_then q_experiment q_center q_height q_band q_isUp q_gone q_risings q_second q_greatest q_least q_period q_swing ms_thrown, zAJ cJ q_setpoint 3 m_setpoint] (tyG cI cJ cZ cO) sz gU)) (va_Ql (fun r (_ : Unit) => r = (f_X6_setpoint_j1_1 m_setpoint lp)) (fun _ t => gB (dC, dI) (va_A [zX6 adM ms_samples q_a1 q_a2 q_b q_deadTime q_load q_measure q_before q_past q_gain q_low q_high q_setpoint q_integral q_guard q_share q_mode q_hand q_follows q_hasMaster q_isStarved q_held q_sum q_lastError q_lastRate q_goesOn q_points q_at q_then q_experiment q_center q_height q_band q_isUp q_gone q_risings q_second q_greatest q_least q_period q_swing ms_thrown, zAJ cJ q_setpoint 3 m_setpoint] sz) [zX6 adM ms_samples q_a1 q_a2 q_b q_deadTime q_load q_measure q_before q_past q_gain q_low q_high q_setpoint q_integral q_guard q_share q_mode q_hand q_follows q_hasMaster q_isStarved q_held q_sum q_lastError q_lastRate q_goesOn q_points q_at q_then q_experiment q_center q_height q_band q_isUp q_gone q_risings q_second q_greatest q_least q_period q_swing (f_X6_isAsked_j1_1 lp), zAJ cJ q_setpoint 3 m_setpoint] (tyG cI cJ cZ cO) t) (va_A [zX6 adM ms_samples q_a1 q_a2 q_b q_deadTime q_load q_measure q_before q_past q_gain q_low q_high q_setpoint q_integral q_guard q_share q_mode q_hand q_follows q_hasMaster q_isStarved q_held q_sum q_lastError q_lastRate q_goesOn q_points q_at q_then q_experiment q_center q_height q_band q_isUp q_gone q_risings q_second q_greatest q_least q_period q_swing ms_thrown, zAJ cJ q_setpoint 3 m_setpoint] sz)) 0 0 (va_A [zX6 adM ms_samples q_a1 q_a2 q_b q_deadTime q_load q_measure q_before q_past q_gain q_low q_high q_setpoint q_integral q_guard q_share q_mode q_hand q_follows q_hasMaster q_isStarved q_held q_sum q_lastError q_lastRate q_goesOn q_points q_at q_then q_experiment q_center q_height q_band q_isUp q_gone q_risings q_second q_greatest q_least q_period q_swing ms_thrown, zAJ cJ q_setpoint 3 m_setpoint] sz) := by
  refine Met.ofW (cc := cX6_setpoint) (maxL := 2) (ret := (some .long)) (by decide) rfl ?_
  intro p e s m args below meth c s₁ B hml hv
  obtain ⟨rfl, hsz, hP, hK, hD0, hG⟩ := hv
  have hx := B.exec
  have hb := B.bytes
  have hr := B.returns
  have hts := ht_of B.pre
  have hown : s.vm.findClass RX6 = some m.cls := findClass_of_methodNamed B.named
  have hlocks := B.notSynchronized
  subst hsz
  have hD := hD0.self (sz := s.heap.size)
  generalize hAe : va_A [zX6 adM ms_samples q_a1 q_a2 q_b q_deadTime q_load q_measure q_before q_past q_gain q_low q_high q_setpoint q_integral q_guard q_share q_mode q_hand q_follows q_hasMaster q_isStarved q_held q_sum q_lastError q_lastRate q_goesOn q_points q_at q_then q_experiment q_center q_height q_band q_isUp q_gone q_risings q_second q_greatest q_least q_period q_swing ms_thrown, zAJ cJ q_setpoint 3 m_setpoint] s.heap.size = A at hD ⊢
  have hA : ∀ q : Nat, s.heap.size ≤ q → A q := fun q h => by rw [← hAe]; exact Or.inr h
  have hS : va_S A s.heap s.heap [] := va_S.rf
  have hP : va_P (dC, dI) vwCl [zX6 adM ms_samples q_a1 q_a2 q_b q_deadTime q_load q_measure q_before q_past q_gain q_low q_high q_setpoint q_integral q_guard q_share q_mode q_hand q_follows q_hasMaster q_isStarved q_held q_sum q_lastError q_lastRate q_goesOn q_points q_at q_then q_experiment q_center q_height q_band q_isUp q_gone q_risings q_second q_greatest q_least q_period q_swing ms_thrown, zAJ cJ q_setpoint 3 m_setpoint] s.heap := hP
  have hl := lv_entry ([.ref adM, .int lp]) (n := 2) (Nat.le_of_ble_eq_true rfl)
  rw [lg_entry_eq]
  generalize (lg_sl ([.ref adM, .int lp]) ++ List.replicate (2 - (lg_sl ([.ref adM, .int lp])).length) Slot.unset).toArray = ls at hl ⊢
  have hl : lv_has ls 2 [(0, .ref adM), (1, .int lp)] := hl
  refine hh_name (fun Q hQ => ?_)
  refine lv_aload_n hx hb dX6_setpoint_0 rfl (lv_at hl 0 rfl) ?_
  refine lv_iload_n hx hb dX6_setpoint_1 rfl (lv_at hl 1 rfl) ?_
  refine hh_calli (w2 := [zX6 adM ms_samples q_a1 q_a2 q_b q_deadTime q_load q_measure q_before q_past q_gain q_low q_high q_setpoint q_integral q_guard q_share q_mode q_hand q_follows q_hasMaster q_isStarved q_held q_sum q_lastError q_lastRate q_goesOn q_points q_at q_then q_experiment q_center q_height q_band q_isUp q_gone q_risings q_second q_greatest q_least q_period q_swing (f_X6_isAsked_j1_1 lp), zAJ cJ q_setpoint 3 m_setpoint]) (va_runV (As := [.int lp]) (rest := []) ⟨hx, hb, hml, hown, hts⟩ (c_X6_isAsked l dC dI cI cJ cZ cO adM ms_samples q_a1 q_a2 q_b q_deadTime q_load q_measure q_before q_past q_gain q_low q_high q_setpoint q_integral q_guard q_share q_mode q_hand q_follows q_hasMaster q_isStarved q_held q_sum q_lastError q_lastRate q_goesOn q_points q_at q_then q_experiment q_center q_height q_band q_isUp q_gone q_risings q_second q_greatest q_least q_period q_swing ms_thrown lp _) (cwV 1 hts (gd_V wd_5_65 wd_5_67 wd_p_22 wd_1_7 wd_5_68) rfl rfl rfl (by decide +kernel) ⟨Nat.le_of_ble_eq_true rfl, Nat.le_of_ble_eq_true rfl⟩) (hh_pV (ci := 6) (q := (RX6, TX6, 42)) (q0 := 0) rfl rfl gU_c (fun _ _ _ => trivial) hK hP hD [0] rfl rfl) rfl rfl hl.1 rfl (lv_room (Nat.le_of_ble_eq_true rfl)) dX6_setpoint_2 ⟨Nat.le_of_ble_eq_true rfl, Nat.le_of_ble_eq_true rfl⟩) hP hD hS hA [0] [1] [1, 0] rfl rfl rfl (by decide) rfl rfl (fun H locs hP hD hS => ?_)
  have J1 : ∀ (H : Heap) (locs : List Loc) (ls : Array Slot), va_P (dC, dI) vwCl [zX6 adM ms_samples q_a1 q_a2 q_b q_deadTime q_load q_measure q_before q_past q_gain q_low q_high q_setpoint q_integral q_guard q_share q_mode q_hand q_follows q_hasMaster q_isStarved q_held q_sum q_lastError q_lastRate q_goesOn q_points q_at q_then q_experiment q_center q_height q_band q_isUp q_gone q_risings q_second q_greatest q_least q_period q_swing (f_X6_isAsked_j1_1 lp), zAJ cJ q_setpoint 3 m_setpoint] H → va_D A [zX6 adM ms_samples q_a1 q_a2 q_b q_deadTime q_load q_measure q_before q_past q_gain q_low q_high q_setpoint q_integral q_guard q_share q_mode q_hand q_follows q_hasMaster q_isStarved q_held q_sum q_lastError q_lastRate q_goesOn q_points q_at q_then q_experiment q_center q_height q_band q_isUp q_gone q_risings q_second q_greatest q_least q_period q_swing (f_X6_isAsked_j1_1 lp), zAJ cJ q_setpoint 3 m_setpoint] → va_S A s.heap H locs → lv_has ls 2 [(0, .ref adM), (1, .int lp)] → W p l e (headSpec (Cond.code yX6_setpoint cX6_setpoint 2 (some .long) :: wAll) ({ frames := 2, cells := 0, slots := 0, locals := 42 })).room s m ([.ref adM, .int lp] : List Value).toArray below meth c H locs 0 0 Q (F0 m 18 ls [.long (f_X6_setpoint_j1_1 m_setpoint lp)]) := by
    intro H locs ls hP hD hS hl
    exact hh_retl hQ (rfl) hx hb hr hlocks hP hK hD hS dX6_setpoint_18
  refine lv_if_eq (tgt := 17) hx hb dX6_setpoint_5 (by decide) (fun h1 => ?_) (fun h1 => ?_)
  · skip
    refine lv_lconst (v := 0) hx hb dX6_setpoint_17 (by decide) ?_
    have e2 : (f_X6_setpoint_j1_1 m_setpoint lp) = (0 : Int64) := if_pos h1
    refine hh_setl (y := (f_X6_setpoint_j1_1 m_setpoint lp)) (if_pos h1) ?_
    exact J1 _ _ _ (hP) (hD) hS (lv_sub hl [0, 1] rfl)
  · skip
    refine lv_aload_n hx hb dX6_setpoint_8 rfl (lv_at hl 0 rfl) ?_
    refine va_get (D := (dC, dI)) (ci := 6) (v := .ref q_setpoint) (C := RX6) (T := TX6) (N := 42) hx hb hts inW_X6 hown hK hP 0 rfl rfl 12 (by decide) (hts _ wd_4_68) (fun _ h9 => h9) rfl dX6_setpoint_9 ?_
    refine lv_iload_n hx hb dX6_setpoint_12 rfl (lv_at hl 1 rfl) ?_
    refine va_lald hx hb hK hP 1 1 rfl rfl (i := lp) (ix_of (P := fun lp => vp_in lp 3) (asked3 (by assumption)) (ix_d (by decide)) (ix_d (by decide)) (ix_d (by decide))) dX6_setpoint_13 ?_
    refine lv_goto (tgt := 18) hx hb dX6_setpoint_14 (by decide) ?_
    have e3 : (f_X6_setpoint_j1_1 m_setpoint lp) = (m_setpoint lp.toNatClampNeg) := if_neg h1
    refine hh_setl (y := (f_X6_setpoint_j1_1 m_setpoint lp)) (if_neg h1) ?_
    exact J1 _ _ _ (hP) (hD) hS (lv_sub hl [0, 1] rfl)
def f_X6_integral_j1_1 (m_integral : Nat → Int64) (lp : Int32) : Int64 := if (f_X6_isAsked_r lp) = (0 : Int32) then (0 : Int64) else (m_integral lp.toNatClampNeg)
set_option maxHeartbeats 4000000 in
set_option maxRecDepth 100000 in
theorem c_X6_integral (l : Launch) (dC : Nat → ClassId) (dI : Nat → Nat → Nat) (cI cJ cZ cO : ClassId) (adM : Nat) (ms_samples : Int32) (q_a1 q_a2 q_b q_deadTime q_load q_measure q_before q_past q_gain q_low q_high q_setpoint q_integral q_guard q_share q_mode q_hand q_follows q_hasMaster q_isStarved q_held q_sum q_lastError q_lastRate q_goesOn q_points q_at q_then q_experiment q_center q_height q_band q_isUp q_gone q_risings q_second q_greatest q_least q_period q_swing : Nat) (ms_thrown : Int32) (m_integral : Nat → Int64) (lp : Int32) (sz : Nat)  : Met l yX6_integral (Cond.code yX6_integral cX6_integral 2 (some .long) :: wAll) ({ frames := 2, cells := 0, slots := 0, locals := 42 }) (va_Pc [.ref adM, .int lp] (gP (dC, dI) [zX6 adM ms_samples q_a1 q_a2 q_b q_deadTime q_load q_measure q_before q_past q_gain q_low q_high q_setpoint q_integral q_guard q_share q_mode q_hand q_follows q_hasMaster q_isStarved q_held q_sum q_lastError q_lastRate q_goesOn q_points q_at q_then q_experiment q_center q_height q_band q_isUp q_gone q_risings q_second q_greatest q_least q_period q_swing ms_thrown, zAJ cJ q_integral 3 m_integral] (tyG cI cJ cZ cO) sz gU)) (va_Ql (fun r (_ : Unit) => r = (f_X6_integral_j1_1 m_integral lp)) (fun _ t => gB (dC, dI) (va_A [zX6 adM ms_samples q_a1 q_a2 q_b q_deadTime q_load q_measure q_before q_past q_gain q_low q_high q_setpoint q_integral q_guard q_share q_mode q_hand q_follows q_hasMaster q_isStarved q_held q_sum q_lastError q_lastRate q_goesOn q_points q_at q_then q_experiment q_center q_height q_band q_isUp q_gone q_risings q_second q_greatest q_least q_period q_swing ms_thrown, zAJ cJ q_integral 3 m_integral] sz) [zX6 adM ms_samples q_a1 q_a2 q_b q_deadTime q_load q_measure q_before q_past q_gain q_low q_high q_setpoint q_integral q_guard q_share q_mode q_hand q_follows q_hasMaster q_isStarved q_held q_sum q_lastError q_lastRate q_goesOn q_points q_at q_then q_experiment q_center q_height q_band q_isUp q_gone q_risings q_second q_greatest q_least q_period q_swing (f_X6_isAsked_j1_1 lp), zAJ cJ q_integral 3 m_integral] (tyG cI cJ cZ cO) t) (va_A [zX6 adM ms_samples q_a1 q_a2 q_b q_deadTime q_load q_measure q_before q_past q_gain q_low q_high q_setpoint q_integral q_guard q_share q_mode q_hand q_follows q_hasMaster q_isStarved q_held q_sum q_lastError q_lastRate q_goesOn q_points q_at q_then q_experiment q_center q_height q_band q_isUp q_gone q_risings q_second q_greatest q_least q_period q_swing ms_thrown, zAJ cJ q_integral 3 m_integral] sz)) 0 0 (va_A [zX6 adM ms_samples q_a1 q_a2 q_b q_deadTime q_load q_measure q_before q_past q_gain q_low q_high q_setpoint q_integral q_guard q_share q_mode q_hand q_follows q_hasMaster q_isStarved q_held q_sum q_lastError q_lastRate q_goesOn q_points q_at q_then q_experiment q_center q_height q_band q_isUp q_gone q_risings q_second q_greatest q_least q_period q_swing ms_thrown, zAJ cJ q_integral 3 m_integral] sz) := by
  refine Met.ofW (cc := cX6_integral) (maxL := 2) (ret := (some .long)) (by decide) rfl ?_
  intro p e s m args below meth c s₁ B hml hv
  obtain ⟨rfl, hsz, hP, hK, hD0, hG⟩ := hv
  have hx := B.exec
  have hb := B.bytes
  have hr := B.returns
  have hts := ht_of B.pre
  have hown : s.vm.findClass RX6 = some m.cls := findClass_of_methodNamed B.named
  have hlocks := B.notSynchronized
  subst hsz
  have hD := hD0.self (sz := s.heap.size)
  generalize hAe : va_A [zX6 adM ms_samples q_a1 q_a2 q_b q_deadTime q_load q_measure q_before q_past q_gain q_low q_high q_setpoint q_integral q_guard q_share q_mode q_hand q_follows q_hasMaster q_isStarved q_held q_sum q_lastError q_lastRate q_goesOn q_points q_at q_then q_experiment q_center q_height q_band q_isUp q_gone q_risings q_second q_greatest q_least q_period q_swing ms_thrown, zAJ cJ q_integral 3 m_integral] s.heap.size = A at hD ⊢
  have hA : ∀ q : Nat, s.heap.size ≤ q → A q := fun q h => by rw [← hAe]; exact Or.inr h
  have hS : va_S A s.heap s.heap [] := va_S.rf
  have hP : va_P (dC, dI) vwCl [zX6 adM ms_samples q_a1 q_a2 q_b q_deadTime q_load q_measure q_before q_past q_gain q_low q_high q_setpoint q_integral q_guard q_share q_mode q_hand q_follows q_hasMaster q_isStarved q_held q_sum q_lastError q_lastRate q_goesOn q_points q_at q_then q_experiment q_center q_height q_band q_isUp q_gone q_risings q_second q_greatest q_least q_period q_swing ms_thrown, zAJ cJ q_integral 3 m_integral] s.heap := hP
  have hl := lv_entry ([.ref adM, .int lp]) (n := 2) (Nat.le_of_ble_eq_true rfl)
  rw [lg_entry_eq]
  generalize (lg_sl ([.ref adM, .int lp]) ++ List.replicate (2 - (lg_sl ([.ref adM, .int lp])).length) Slot.unset).toArray = ls at hl ⊢
  have hl : lv_has ls 2 [(0, .ref adM), (1, .int lp)] := hl
  refine hh_name (fun Q hQ => ?_)
  refine lv_aload_n hx hb dX6_integral_0 rfl (lv_at hl 0 rfl) ?_
  refine lv_iload_n hx hb dX6_integral_1 rfl (lv_at hl 1 rfl) ?_
  refine hh_calli (w2 := [zX6 adM ms_samples q_a1 q_a2 q_b q_deadTime q_load q_measure q_before q_past q_gain q_low q_high q_setpoint q_integral q_guard q_share q_mode q_hand q_follows q_hasMaster q_isStarved q_held q_sum q_lastError q_lastRate q_goesOn q_points q_at q_then q_experiment q_center q_height q_band q_isUp q_gone q_risings q_second q_greatest q_least q_period q_swing (f_X6_isAsked_j1_1 lp), zAJ cJ q_integral 3 m_integral]) (va_runV (As := [.int lp]) (rest := []) ⟨hx, hb, hml, hown, hts⟩ (c_X6_isAsked l dC dI cI cJ cZ cO adM ms_samples q_a1 q_a2 q_b q_deadTime q_load q_measure q_before q_past q_gain q_low q_high q_setpoint q_integral q_guard q_share q_mode q_hand q_follows q_hasMaster q_isStarved q_held q_sum q_lastError q_lastRate q_goesOn q_points q_at q_then q_experiment q_center q_height q_band q_isUp q_gone q_risings q_second q_greatest q_least q_period q_swing ms_thrown lp _) (cwV 1 hts (gd_V wd_5_65 wd_5_67 wd_p_22 wd_1_7 wd_5_68) rfl rfl rfl (by decide +kernel) ⟨Nat.le_of_ble_eq_true rfl, Nat.le_of_ble_eq_true rfl⟩) (hh_pV (ci := 6) (q := (RX6, TX6, 42)) (q0 := 0) rfl rfl gU_c (fun _ _ _ => trivial) hK hP hD [0] rfl rfl) rfl rfl hl.1 rfl (lv_room (Nat.le_of_ble_eq_true rfl)) dX6_integral_2 ⟨Nat.le_of_ble_eq_true rfl, Nat.le_of_ble_eq_true rfl⟩) hP hD hS hA [0] [1] [1, 0] rfl rfl rfl (by decide) rfl rfl (fun H locs hP hD hS => ?_)
  have J1 : ∀ (H : Heap) (locs : List Loc) (ls : Array Slot), va_P (dC, dI) vwCl [zX6 adM ms_samples q_a1 q_a2 q_b q_deadTime q_load q_measure q_before q_past q_gain q_low q_high q_setpoint q_integral q_guard q_share q_mode q_hand q_follows q_hasMaster q_isStarved q_held q_sum q_lastError q_lastRate q_goesOn q_points q_at q_then q_experiment q_center q_height q_band q_isUp q_gone q_risings q_second q_greatest q_least q_period q_swing (f_X6_isAsked_j1_1 lp), zAJ cJ q_integral 3 m_integral] H → va_D A [zX6 adM ms_samples q_a1 q_a2 q_b q_deadTime q_load q_measure q_before q_past q_gain q_low q_high q_setpoint q_integral q_guard q_share q_mode q_hand q_follows q_hasMaster q_isStarved q_held q_sum q_lastError q_lastRate q_goesOn q_points q_at q_then q_experiment q_center q_height q_band q_isUp q_gone q_risings q_second q_greatest q_least q_period q_swing (f_X6_isAsked_j1_1 lp), zAJ cJ q_integral 3 m_integral] → va_S A s.heap H locs → lv_has ls 2 [(0, .ref adM), (1, .int lp)] → W p l e (headSpec (Cond.code yX6_integral cX6_integral 2 (some .long) :: wAll) ({ frames := 2, cells := 0, slots := 0, locals := 42 })).room s m ([.ref adM, .int lp] : List Value).toArray below meth c H locs 0 0 Q (F0 m 18 ls [.long (f_X6_integral_j1_1 m_integral lp)]) := by
    intro H locs ls hP hD hS hl
    exact hh_retl hQ (rfl) hx hb hr hlocks hP hK hD hS dX6_integral_18
  refine lv_if_eq (tgt := 17) hx hb dX6_integral_5 (by decide) (fun h1 => ?_) (fun h1 => ?_)
  · skip
    refine lv_lconst (v := 0) hx hb dX6_integral_17 (by decide) ?_
    have e2 : (f_X6_integral_j1_1 m_integral lp) = (0 : Int64) := if_pos h1
    refine hh_setl (y := (f_X6_integral_j1_1 m_integral lp)) (if_pos h1) ?_
    exact J1 _ _ _ (hP) (hD) hS (lv_sub hl [0, 1] rfl)
  · skip
    refine lv_aload_n hx hb dX6_integral_8 rfl (lv_at hl 0 rfl) ?_
    refine va_get (D := (dC, dI)) (ci := 6) (v := .ref q_integral) (C := RX6) (T := TX6) (N := 42) hx hb hts inW_X6 hown hK hP 0 rfl rfl 13 (by decide) (hts _ wd_4_69) (fun _ h9 => h9) rfl dX6_integral_9 ?_
    refine lv_iload_n hx hb dX6_integral_12 rfl (lv_at hl 1 rfl) ?_
    refine va_lald hx hb hK hP 1 1 rfl rfl (i := lp) (ix_of (P := fun lp => vp_in lp 3) (asked3 (by assumption)) (ix_d (by decide)) (ix_d (by decide)) (ix_d (by decide))) dX6_integral_13 ?_
    refine lv_goto (tgt := 18) hx hb dX6_integral_14 (by decide) ?_
    have e3 : (f_X6_integral_j1_1 m_integral lp) = (m_integral lp.toNatClampNeg) := if_neg h1
    refine hh_setl (y := (f_X6_integral_j1_1 m_integral lp)) (if_neg h1) ?_
    exact J1 _ _ _ (hP) (hD) hS (lv_sub hl [0, 1] rfl)
def f_X6_mode_j1_1 (m_mode : Nat → Int32) (lp : Int32) : Int32 := if (f_X6_isAsked_r lp) = (0 : Int32) then (0 : Int32) else (m_mode lp.toNatClampNeg)
set_option maxHeartbeats 4000000 in
set_option maxRecDepth 100000 in
theorem c_X6_mode (l : Launch) (dC : Nat → ClassId) (dI : Nat → Nat → Nat) (cI cJ cZ cO : ClassId) (adM : Nat) (ms_samples : Int32) (q_a1 q_a2 q_b q_deadTime q_load q_measure q_before q_past q_gain q_low q_high q_setpoint q_integral q_guard q_share q_mode q_hand q_follows q_hasMaster q_isStarved q_held q_sum q_lastError q_lastRate q_goesOn q_points q_at q_then q_experiment q_center q_height q_band q_isUp q_gone q_risings q_second q_greatest q_least q_period q_swing : Nat) (ms_thrown : Int32) (m_mode : Nat → Int32) (lp : Int32) (sz : Nat)  : Met l yX6_mode (Cond.code yX6_mode cX6_mode 2 (some .int) :: wAll) ({ frames := 2, cells := 0, slots := 0, locals := 42 }) (va_Pc [.ref adM, .int lp] (gP (dC, dI) [zX6 adM ms_samples q_a1 q_a2 q_b q_deadTime q_load q_measure q_before q_past q_gain q_low q_high q_setpoint q_integral q_guard q_share q_mode q_hand q_follows q_hasMaster q_isStarved q_held q_sum q_lastError q_lastRate q_goesOn q_points q_at q_then q_experiment q_center q_height q_band q_isUp q_gone q_risings q_second q_greatest q_least q_period q_swing ms_thrown, zAI cI q_mode 3 m_mode] (tyG cI cJ cZ cO) sz gU)) (va_Qi (fun r (_ : Unit) => r = (f_X6_mode_j1_1 m_mode lp)) (fun _ t => gB (dC, dI) (va_A [zX6 adM ms_samples q_a1 q_a2 q_b q_deadTime q_load q_measure q_before q_past q_gain q_low q_high q_setpoint q_integral q_guard q_share q_mode q_hand q_follows q_hasMaster q_isStarved q_held q_sum q_lastError q_lastRate q_goesOn q_points q_at q_then q_experiment q_center q_height q_band q_isUp q_gone q_risings q_second q_greatest q_least q_period q_swing ms_thrown, zAI cI q_mode 3 m_mode] sz) [zX6 adM ms_samples q_a1 q_a2 q_b q_deadTime q_load q_measure q_before q_past q_gain q_low q_high q_setpoint q_integral q_guard q_share q_mode q_hand q_follows q_hasMaster q_isStarved q_held q_sum q_lastError q_lastRate q_goesOn q_points q_at q_then q_experiment q_center q_height q_band q_isUp q_gone q_risings q_second q_greatest q_least q_period q_swing (f_X6_isAsked_j1_1 lp), zAI cI q_mode 3 m_mode] (tyG cI cJ cZ cO) t) (va_A [zX6 adM ms_samples q_a1 q_a2 q_b q_deadTime q_load q_measure q_before q_past q_gain q_low q_high q_setpoint q_integral q_guard q_share q_mode q_hand q_follows q_hasMaster q_isStarved q_held q_sum q_lastError q_lastRate q_goesOn q_points q_at q_then q_experiment q_center q_height q_band q_isUp q_gone q_risings q_second q_greatest q_least q_period q_swing ms_thrown, zAI cI q_mode 3 m_mode] sz)) 0 0 (va_A [zX6 adM ms_samples q_a1 q_a2 q_b q_deadTime q_load q_measure q_before q_past q_gain q_low q_high q_setpoint q_integral q_guard q_share q_mode q_hand q_follows q_hasMaster q_isStarved q_held q_sum q_lastError q_lastRate q_goesOn q_points q_at q_then q_experiment q_center q_height q_band q_isUp q_gone q_risings q_second q_greatest q_least q_period q_swing ms_thrown, zAI cI q_mode 3 m_mode] sz) := by
  refine Met.ofW (cc := cX6_mode) (maxL := 2) (ret := (some .int)) (by decide) rfl ?_
  intro p e s m args below meth c s₁ B hml hv
  obtain ⟨rfl, hsz, hP, hK, hD0, hG⟩ := hv
  have hx := B.exec
  have hb := B.bytes
  have hr := B.returns
  have hts := ht_of B.pre
  have hown : s.vm.findClass RX6 = some m.cls := findClass_of_methodNamed B.named
  have hlocks := B.notSynchronized
  subst hsz
  have hD := hD0.self (sz := s.heap.size)
  generalize hAe : va_A [zX6 adM ms_samples q_a1 q_a2 q_b q_deadTime q_load q_measure q_before q_past q_gain q_low q_high q_setpoint q_integral q_guard q_share q_mode q_hand q_follows q_hasMaster q_isStarved q_held q_sum q_lastError q_lastRate q_goesOn q_points q_at q_then q_experiment q_center q_height q_band q_isUp q_gone q_risings q_second q_greatest q_least q_period q_swing ms_thrown, zAI cI q_mode 3 m_mode] s.heap.size = A at hD ⊢
  have hA : ∀ q : Nat, s.heap.size ≤ q → A q := fun q h => by rw [← hAe]; exact Or.inr h
  have hS : va_S A s.heap s.heap [] := va_S.rf
  have hP : va_P (dC, dI) vwCl [zX6 adM ms_samples q_a1 q_a2 q_b q_deadTime q_load q_measure q_before q_past q_gain q_low q_high q_setpoint q_integral q_guard q_share q_mode q_hand q_follows q_hasMaster q_isStarved q_held q_sum q_lastError q_lastRate q_goesOn q_points q_at q_then q_experiment q_center q_height q_band q_isUp q_gone q_risings q_second q_greatest q_least q_period q_swing ms_thrown, zAI cI q_mode 3 m_mode] s.heap := hP
  have hl := lv_entry ([.ref adM, .int lp]) (n := 2) (Nat.le_of_ble_eq_true rfl)
  rw [lg_entry_eq]
  generalize (lg_sl ([.ref adM, .int lp]) ++ List.replicate (2 - (lg_sl ([.ref adM, .int lp])).length) Slot.unset).toArray = ls at hl ⊢
  have hl : lv_has ls 2 [(0, .ref adM), (1, .int lp)] := hl
  refine hh_name (fun Q hQ => ?_)
  refine lv_aload_n hx hb dX6_mode_0 rfl (lv_at hl 0 rfl) ?_
  refine lv_iload_n hx hb dX6_mode_1 rfl (lv_at hl 1 rfl) ?_
  refine hh_calli (w2 := [zX6 adM ms_samples q_a1 q_a2 q_b q_deadTime q_load q_measure q_before q_past q_gain q_low q_high q_setpoint q_integral q_guard q_share q_mode q_hand q_follows q_hasMaster q_isStarved q_held q_sum q_lastError q_lastRate q_goesOn q_points q_at q_then q_experiment q_center q_height q_band q_isUp q_gone q_risings q_second q_greatest q_least q_period q_swing (f_X6_isAsked_j1_1 lp), zAI cI q_mode 3 m_mode]) (va_runV (As := [.int lp]) (rest := []) ⟨hx, hb, hml, hown, hts⟩ (c_X6_isAsked l dC dI cI cJ cZ cO adM ms_samples q_a1 q_a2 q_b q_deadTime q_load q_measure q_before q_past q_gain q_low q_high q_setpoint q_integral q_guard q_share q_mode q_hand q_follows q_hasMaster q_isStarved q_held q_sum q_lastError q_lastRate q_goesOn q_points q_at q_then q_experiment q_center q_height q_band q_isUp q_gone q_risings q_second q_greatest q_least q_period q_swing ms_thrown lp _) (cwV 1 hts (gd_V wd_5_65 wd_5_67 wd_p_22 wd_1_7 wd_5_68) rfl rfl rfl (by decide +kernel) ⟨Nat.le_of_ble_eq_true rfl, Nat.le_of_ble_eq_true rfl⟩) (hh_pV (ci := 6) (q := (RX6, TX6, 42)) (q0 := 0) rfl rfl gU_c (fun _ _ _ => trivial) hK hP hD [0] rfl rfl) rfl rfl hl.1 rfl (lv_room (Nat.le_of_ble_eq_true rfl)) dX6_mode_2 ⟨Nat.le_of_ble_eq_true rfl, Nat.le_of_ble_eq_true rfl⟩) hP hD hS hA [0] [1] [1, 0] rfl rfl rfl (by decide) rfl rfl (fun H locs hP hD hS => ?_)
  have J1 : ∀ (H : Heap) (locs : List Loc) (ls : Array Slot), va_P (dC, dI) vwCl [zX6 adM ms_samples q_a1 q_a2 q_b q_deadTime q_load q_measure q_before q_past q_gain q_low q_high q_setpoint q_integral q_guard q_share q_mode q_hand q_follows q_hasMaster q_isStarved q_held q_sum q_lastError q_lastRate q_goesOn q_points q_at q_then q_experiment q_center q_height q_band q_isUp q_gone q_risings q_second q_greatest q_least q_period q_swing (f_X6_isAsked_j1_1 lp), zAI cI q_mode 3 m_mode] H → va_D A [zX6 adM ms_samples q_a1 q_a2 q_b q_deadTime q_load q_measure q_before q_past q_gain q_low q_high q_setpoint q_integral q_guard q_share q_mode q_hand q_follows q_hasMaster q_isStarved q_held q_sum q_lastError q_lastRate q_goesOn q_points q_at q_then q_experiment q_center q_height q_band q_isUp q_gone q_risings q_second q_greatest q_least q_period q_swing (f_X6_isAsked_j1_1 lp), zAI cI q_mode 3 m_mode] → va_S A s.heap H locs → lv_has ls 2 [(0, .ref adM), (1, .int lp)] → W p l e (headSpec (Cond.code yX6_mode cX6_mode 2 (some .int) :: wAll) ({ frames := 2, cells := 0, slots := 0, locals := 42 })).room s m ([.ref adM, .int lp] : List Value).toArray below meth c H locs 0 0 Q (F0 m 18 ls [.int (f_X6_mode_j1_1 m_mode lp)]) := by
    intro H locs ls hP hD hS hl
    exact hh_reti hQ (rfl) hx hb hr hlocks hP hK hD hS dX6_mode_18
  refine lv_if_eq (tgt := 17) hx hb dX6_mode_5 (by decide) (fun h1 => ?_) (fun h1 => ?_)
  · skip
    refine lv_iconst (v := 0) hx hb dX6_mode_17 (by decide) ?_
    have e2 : (f_X6_mode_j1_1 m_mode lp) = (0 : Int32) := if_pos h1
    refine hh_seti (y := (f_X6_mode_j1_1 m_mode lp)) (if_pos h1) ?_
    exact J1 _ _ _ (hP) (hD) hS (lv_sub hl [0, 1] rfl)
  · skip
    refine lv_aload_n hx hb dX6_mode_8 rfl (lv_at hl 0 rfl) ?_
    refine va_get (D := (dC, dI)) (ci := 6) (v := .ref q_mode) (C := RX6) (T := TX6) (N := 42) hx hb hts inW_X6 hown hK hP 0 rfl rfl 16 (by decide) (hts _ wd_4_72) (fun _ h9 => h9) rfl dX6_mode_9 ?_
    refine lv_iload_n hx hb dX6_mode_12 rfl (lv_at hl 1 rfl) ?_
    refine va_iald hx hb hK hP 1 0 rfl rfl (i := lp) (ix_of (P := fun lp => vp_in lp 3) (asked3 (by assumption)) (ix_d (by decide)) (ix_d (by decide)) (ix_d (by decide))) dX6_mode_13 ?_
    refine lv_goto (tgt := 18) hx hb dX6_mode_14 (by decide) ?_
    have e3 : (f_X6_mode_j1_1 m_mode lp) = (m_mode lp.toNatClampNeg) := if_neg h1
    refine hh_seti (y := (f_X6_mode_j1_1 m_mode lp)) (if_neg h1) ?_
    exact J1 _ _ _ (hP) (hD) hS (lv_sub hl [0, 1] rfl)
def f_X6_wasStarved_j1_1 (m_isStarved : Nat → Int32) (lp : Int32) : Int32 := if (f_X6_isAsked_r lp) = (0 : Int32) then (0 : Int32) else (if (m_isStarved lp.toNatClampNeg) = (0 : Int32) then (0 : Int32) else (1 : Int32))
theorem f_X6_wasStarved_j1_1_z (m_isStarved : Nat → Int32) (lp : Int32) : narrow .boolean (.int (f_X6_wasStarved_j1_1 m_isStarved lp)) = .int (f_X6_wasStarved_j1_1 m_isStarved lp) := by
  unfold f_X6_wasStarved_j1_1
  repeat' split
  all_goals rfl
set_option maxHeartbeats 4000000 in
set_option maxRecDepth 100000 in
theorem c_X6_wasStarved (l : Launch) (dC : Nat → ClassId) (dI : Nat → Nat → Nat) (cI cJ cZ cO : ClassId) (adM : Nat) (ms_samples : Int32) (q_a1 q_a2 q_b q_deadTime q_load q_measure q_before q_past q_gain q_low q_high q_setpoint q_integral q_guard q_share q_mode q_hand q_follows q_hasMaster q_isStarved q_held q_sum q_lastError q_lastRate q_goesOn q_points q_at q_then q_experiment q_center q_height q_band q_isUp q_gone q_risings q_second q_greatest q_least q_period q_swing : Nat) (ms_thrown : Int32) (m_isStarved : Nat → Int32) (lp : Int32) (sz : Nat)  : Met l yX6_wasStarved (Cond.code yX6_wasStarved cX6_wasStarved 2 (some .boolean) :: wAll) ({ frames := 2, cells := 0, slots := 0, locals := 42 }) (va_Pc [.ref adM, .int lp] (gP (dC, dI) [zX6 adM ms_samples q_a1 q_a2 q_b q_deadTime q_load q_measure q_before q_past q_gain q_low q_high q_setpoint q_integral q_guard q_share q_mode q_hand q_follows q_hasMaster q_isStarved q_held q_sum q_lastError q_lastRate q_goesOn q_points q_at q_then q_experiment q_center q_height q_band q_isUp q_gone q_risings q_second q_greatest q_least q_period q_swing ms_thrown, zAI cZ q_isStarved 3 m_isStarved] (tyG cI cJ cZ cO) sz gU)) (va_Qi (fun r (_ : Unit) => r = (f_X6_wasStarved_j1_1 m_isStarved lp)) (fun _ t => gB (dC, dI) (va_A [zX6 adM ms_samples q_a1 q_a2 q_b q_deadTime q_load q_measure q_before q_past q_gain q_low q_high q_setpoint q_integral q_guard q_share q_mode q_hand q_follows q_hasMaster q_isStarved q_held q_sum q_lastError q_lastRate q_goesOn q_points q_at q_then q_experiment q_center q_height q_band q_isUp q_gone q_risings q_second q_greatest q_least q_period q_swing ms_thrown, zAI cZ q_isStarved 3 m_isStarved] sz) [zX6 adM ms_samples q_a1 q_a2 q_b q_deadTime q_load q_measure q_before q_past q_gain q_low q_high q_setpoint q_integral q_guard q_share q_mode q_hand q_follows q_hasMaster q_isStarved q_held q_sum q_lastError q_lastRate q_goesOn q_points q_at q_then q_experiment q_center q_height q_band q_isUp q_gone q_risings q_second q_greatest q_least q_period q_swing (f_X6_isAsked_j1_1 lp), zAI cZ q_isStarved 3 m_isStarved] (tyG cI cJ cZ cO) t) (va_A [zX6 adM ms_samples q_a1 q_a2 q_b q_deadTime q_load q_measure q_before q_past q_gain q_low q_high q_setpoint q_integral q_guard q_share q_mode q_hand q_follows q_hasMaster q_isStarved q_held q_sum q_lastError q_lastRate q_goesOn q_points q_at q_then q_experiment q_center q_height q_band q_isUp q_gone q_risings q_second q_greatest q_least q_period q_swing ms_thrown, zAI cZ q_isStarved 3 m_isStarved] sz)) 0 0 (va_A [zX6 adM ms_samples q_a1 q_a2 q_b q_deadTime q_load q_measure q_before q_past q_gain q_low q_high q_setpoint q_integral q_guard q_share q_mode q_hand q_follows q_hasMaster q_isStarved q_held q_sum q_lastError q_lastRate q_goesOn q_points q_at q_then q_experiment q_center q_height q_band q_isUp q_gone q_risings q_second q_greatest q_least q_period q_swing ms_thrown, zAI cZ q_isStarved 3 m_isStarved] sz) := by
  refine Met.ofW (cc := cX6_wasStarved) (maxL := 2) (ret := (some .boolean)) (by decide) rfl ?_
  intro p e s m args below meth c s₁ B hml hv
  obtain ⟨rfl, hsz, hP, hK, hD0, hG⟩ := hv
  have hx := B.exec
  have hb := B.bytes
  have hr := B.returns
  have hts := ht_of B.pre
  have hown : s.vm.findClass RX6 = some m.cls := findClass_of_methodNamed B.named
  have hlocks := B.notSynchronized
  subst hsz
  have hD := hD0.self (sz := s.heap.size)
  generalize hAe : va_A [zX6 adM ms_samples q_a1 q_a2 q_b q_deadTime q_load q_measure q_before q_past q_gain q_low q_high q_setpoint q_integral q_guard q_share q_mode q_hand q_follows q_hasMaster q_isStarved q_held q_sum q_lastError q_lastRate q_goesOn q_points q_at q_then q_experiment q_center q_height q_band q_isUp q_gone q_risings q_second q_greatest q_least q_period q_swing ms_thrown, zAI cZ q_isStarved 3 m_isStarved] s.heap.size = A at hD ⊢
  have hA : ∀ q : Nat, s.heap.size ≤ q → A q := fun q h => by rw [← hAe]; exact Or.inr h
  have hS : va_S A s.heap s.heap [] := va_S.rf
  have hP : va_P (dC, dI) vwCl [zX6 adM ms_samples q_a1 q_a2 q_b q_deadTime q_load q_measure q_before q_past q_gain q_low q_high q_setpoint q_integral q_guard q_share q_mode q_hand q_follows q_hasMaster q_isStarved q_held q_sum q_lastError q_lastRate q_goesOn q_points q_at q_then q_experiment q_center q_height q_band q_isUp q_gone q_risings q_second q_greatest q_least q_period q_swing ms_thrown, zAI cZ q_isStarved 3 m_isStarved] s.heap := hP
  have hl := lv_entry ([.ref adM, .int lp]) (n := 2) (Nat.le_of_ble_eq_true rfl)
  rw [lg_entry_eq]
  generalize (lg_sl ([.ref adM, .int lp]) ++ List.replicate (2 - (lg_sl ([.ref adM, .int lp])).length) Slot.unset).toArray = ls at hl ⊢
  have hl : lv_has ls 2 [(0, .ref adM), (1, .int lp)] := hl
  refine hh_name (fun Q hQ => ?_)
  refine lv_aload_n hx hb dX6_wasStarved_0 rfl (lv_at hl 0 rfl) ?_
  refine lv_iload_n hx hb dX6_wasStarved_1 rfl (lv_at hl 1 rfl) ?_
  refine hh_calli (w2 := [zX6 adM ms_samples q_a1 q_a2 q_b q_deadTime q_load q_measure q_before q_past q_gain q_low q_high q_setpoint q_integral q_guard q_share q_mode q_hand q_follows q_hasMaster q_isStarved q_held q_sum q_lastError q_lastRate q_goesOn q_points q_at q_then q_experiment q_center q_height q_band q_isUp q_gone q_risings q_second q_greatest q_least q_period q_swing (f_X6_isAsked_j1_1 lp), zAI cZ q_isStarved 3 m_isStarved]) (va_runV (As := [.int lp]) (rest := []) ⟨hx, hb, hml, hown, hts⟩ (c_X6_isAsked l dC dI cI cJ cZ cO adM ms_samples q_a1 q_a2 q_b q_deadTime q_load q_measure q_before q_past q_gain q_low q_high q_setpoint q_integral q_guard q_share q_mode q_hand q_follows q_hasMaster q_isStarved q_held q_sum q_lastError q_lastRate q_goesOn q_points q_at q_then q_experiment q_center q_height q_band q_isUp q_gone q_risings q_second q_greatest q_least q_period q_swing ms_thrown lp _) (cwV 1 hts (gd_V wd_5_65 wd_5_67 wd_p_22 wd_1_7 wd_5_68) rfl rfl rfl (by decide +kernel) ⟨Nat.le_of_ble_eq_true rfl, Nat.le_of_ble_eq_true rfl⟩) (hh_pV (ci := 6) (q := (RX6, TX6, 42)) (q0 := 0) rfl rfl gU_c (fun _ _ _ => trivial) hK hP hD [0] rfl rfl) rfl rfl hl.1 rfl (lv_room (Nat.le_of_ble_eq_true rfl)) dX6_wasStarved_2 ⟨Nat.le_of_ble_eq_true rfl, Nat.le_of_ble_eq_true rfl⟩) hP hD hS hA [0] [1] [1, 0] rfl rfl rfl (by decide) rfl rfl (fun H locs hP hD hS => ?_)
  have J1 : ∀ (H : Heap) (locs : List Loc) (ls : Array Slot), va_P (dC, dI) vwCl [zX6 adM ms_samples q_a1 q_a2 q_b q_deadTime q_load q_measure q_before q_past q_gain q_low q_high q_setpoint q_integral q_guard q_share q_mode q_hand q_follows q_hasMaster q_isStarved q_held q_sum q_lastError q_lastRate q_goesOn q_points q_at q_then q_experiment q_center q_height q_band q_isUp q_gone q_risings q_second q_greatest q_least q_period q_swing (f_X6_isAsked_j1_1 lp), zAI cZ q_isStarved 3 m_isStarved] H → va_D A [zX6 adM ms_samples q_a1 q_a2 q_b q_deadTime q_load q_measure q_before q_past q_gain q_low q_high q_setpoint q_integral q_guard q_share q_mode q_hand q_follows q_hasMaster q_isStarved q_held q_sum q_lastError q_lastRate q_goesOn q_points q_at q_then q_experiment q_center q_height q_band q_isUp q_gone q_risings q_second q_greatest q_least q_period q_swing (f_X6_isAsked_j1_1 lp), zAI cZ q_isStarved 3 m_isStarved] → va_S A s.heap H locs → lv_has ls 2 [(0, .ref adM), (1, .int lp)] → W p l e (headSpec (Cond.code yX6_wasStarved cX6_wasStarved 2 (some .boolean) :: wAll) ({ frames := 2, cells := 0, slots := 0, locals := 42 })).room s m ([.ref adM, .int lp] : List Value).toArray below meth c H locs 0 0 Q (F0 m 22 ls [.int (f_X6_wasStarved_j1_1 m_isStarved lp)]) := by
    intro H locs ls hP hD hS hl
    exact hh_retz hQ (rfl) (f_X6_wasStarved_j1_1_z m_isStarved lp) hx hb hr hlocks hP hK hD hS dX6_wasStarved_22
  refine lv_if_eq (tgt := 21) hx hb dX6_wasStarved_5 (by decide) (fun h1 => ?_) (fun h1 => ?_)
  · skip
    refine lv_iconst (v := 0) hx hb dX6_wasStarved_21 (by decide) ?_
    have e3 : (f_X6_wasStarved_j1_1 m_isStarved lp) = (0 : Int32) := if_pos h1
    refine hh_seti (y := (f_X6_wasStarved_j1_1 m_isStarved lp)) (if_pos h1) ?_
    exact J1 _ _ _ (hP) (hD) hS (lv_sub hl [0, 1] rfl)
  · skip
    refine lv_aload_n hx hb dX6_wasStarved_8 rfl (lv_at hl 0 rfl) ?_
    refine va_get (D := (dC, dI)) (ci := 6) (v := .ref q_isStarved) (C := RX6) (T := TX6) (N := 42) hx hb hts inW_X6 hown hK hP 0 rfl rfl 20 (by decide) (hts _ wd_4_76) (fun _ h9 => h9) rfl dX6_wasStarved_9 ?_
    refine lv_iload_n hx hb dX6_wasStarved_12 rfl (lv_at hl 1 rfl) ?_
    refine va_zald hx hb hK hP 1 2 rfl rfl (i := lp) (ix_of (P := fun lp => vp_in lp 3) (asked3 (by assumption)) (ix_d (by decide)) (ix_d (by decide)) (ix_d (by decide))) dX6_wasStarved_13 ?_
    refine lv_if_eq (tgt := 21) hx hb dX6_wasStarved_14 (by decide) (fun h2 => ?_) (fun h2 => ?_)
    · skip
      refine lv_iconst (v := 0) hx hb dX6_wasStarved_21 (by decide) ?_
      have e4 : (f_X6_wasStarved_j1_1 m_isStarved lp) = (0 : Int32) := (if_neg h1).trans (if_pos h2)
      refine hh_seti (y := (f_X6_wasStarved_j1_1 m_isStarved lp)) ((if_neg h1).trans (if_pos h2)) ?_
      exact J1 _ _ _ (hP) (hD) hS (lv_sub hl [0, 1] rfl)
    · skip
      refine lv_iconst (v := 1) hx hb dX6_wasStarved_17 (by decide) ?_
      refine lv_goto (tgt := 22) hx hb dX6_wasStarved_18 (by decide) ?_
      have e5 : (f_X6_wasStarved_j1_1 m_isStarved lp) = (1 : Int32) := (if_neg h1).trans (if_neg h2)
      refine hh_seti (y := (f_X6_wasStarved_j1_1 m_isStarved lp)) ((if_neg h1).trans (if_neg h2)) ?_
      exact J1 _ _ _ (hP) (hD) hS (lv_sub hl [0, 1] rfl)
def f_X6_held_j1_1 (m_held : Nat → Int32) (lp : Int32) : Int32 := if (f_X6_isAsked_r lp) = (0 : Int32) then (0 : Int32) else (m_held lp.toNatClampNeg)
set_option maxHeartbeats 4000000 in
set_option maxRecDepth 100000 in
theorem c_X6_held (l : Launch) (dC : Nat → ClassId) (dI : Nat → Nat → Nat) (cI cJ cZ cO : ClassId) (adM : Nat) (ms_samples : Int32) (q_a1 q_a2 q_b q_deadTime q_load q_measure q_before q_past q_gain q_low q_high q_setpoint q_integral q_guard q_share q_mode q_hand q_follows q_hasMaster q_isStarved q_held q_sum q_lastError q_lastRate q_goesOn q_points q_at q_then q_experiment q_center q_height q_band q_isUp q_gone q_risings q_second q_greatest q_least q_period q_swing : Nat) (ms_thrown : Int32) (m_held : Nat → Int32) (lp : Int32) (sz : Nat)  : Met l yX6_held (Cond.code yX6_held cX6_held 2 (some .int) :: wAll) ({ frames := 2, cells := 0, slots := 0, locals := 42 }) (va_Pc [.ref adM, .int lp] (gP (dC, dI) [zX6 adM ms_samples q_a1 q_a2 q_b q_deadTime q_load q_measure q_before q_past q_gain q_low q_high q_setpoint q_integral q_guard q_share q_mode q_hand q_follows q_hasMaster q_isStarved q_held q_sum q_lastError q_lastRate q_goesOn q_points q_at q_then q_experiment q_center q_height q_band q_isUp q_gone q_risings q_second q_greatest q_least q_period q_swing ms_thrown, zAI cI q_held 3 m_held] (tyG cI cJ cZ cO) sz gU)) (va_Qi (fun r (_ : Unit) => r = (f_X6_held_j1_1 m_held lp)) (fun _ t => gB (dC, dI) (va_A [zX6 adM ms_samples q_a1 q_a2 q_b q_deadTime q_load q_measure q_before q_past q_gain q_low q_high q_setpoint q_integral q_guard q_share q_mode q_hand q_follows q_hasMaster q_isStarved q_held q_sum q_lastError q_lastRate q_goesOn q_points q_at q_then q_experiment q_center q_height q_band q_isUp q_gone q_risings q_second q_greatest q_least q_period q_swing ms_thrown, zAI cI q_held 3 m_held] sz) [zX6 adM ms_samples q_a1 q_a2 q_b q_deadTime q_load q_measure q_before q_past q_gain q_low q_high q_setpoint q_integral q_guard q_share q_mode q_hand q_follows q_hasMaster q_isStarved q_held q_sum q_lastError q_lastRate q_goesOn q_points q_at q_then q_experiment q_center q_height q_band q_isUp q_gone q_risings q_second q_greatest q_least q_period q_swing (f_X6_isAsked_j1_1 lp), zAI cI q_held 3 m_held] (tyG cI cJ cZ cO) t) (va_A [zX6 adM ms_samples q_a1 q_a2 q_b q_deadTime q_load q_measure q_before q_past q_gain q_low q_high q_setpoint q_integral q_guard q_share q_mode q_hand q_follows q_hasMaster q_isStarved q_held q_sum q_lastError q_lastRate q_goesOn q_points q_at q_then q_experiment q_center q_height q_band q_isUp q_gone q_risings q_second q_greatest q_least q_period q_swing ms_thrown, zAI cI q_held 3 m_held] sz)) 0 0 (va_A [zX6 adM ms_samples q_a1 q_a2 q_b q_deadTime q_load q_measure q_before q_past q_gain q_low q_high q_setpoint q_integral q_guard q_share q_mode q_hand q_follows q_hasMaster q_isStarved q_held q_sum q_lastError q_lastRate q_goesOn q_points q_at q_then q_experiment q_center q_height q_band q_isUp q_gone q_risings q_second q_greatest q_least q_period q_swing ms_thrown, zAI cI q_held 3 m_held] sz) := by
  refine Met.ofW (cc := cX6_held) (maxL := 2) (ret := (some .int)) (by decide) rfl ?_
  intro p e s m args below meth c s₁ B hml hv
  obtain ⟨rfl, hsz, hP, hK, hD0, hG⟩ := hv
  have hx := B.exec
  have hb := B.bytes
  have hr := B.returns
  have hts := ht_of B.pre
  have hown : s.vm.findClass RX6 = some m.cls := findClass_of_methodNamed B.named
  have hlocks := B.notSynchronized
  subst hsz
  have hD := hD0.self (sz := s.heap.size)
  generalize hAe : va_A [zX6 adM ms_samples q_a1 q_a2 q_b q_deadTime q_load q_measure q_before q_past q_gain q_low q_high q_setpoint q_integral q_guard q_share q_mode q_hand q_follows q_hasMaster q_isStarved q_held q_sum q_lastError q_lastRate q_goesOn q_points q_at q_then q_experiment q_center q_height q_band q_isUp q_gone q_risings q_second q_greatest q_least q_period q_swing ms_thrown, zAI cI q_held 3 m_held] s.heap.size = A at hD ⊢
  have hA : ∀ q : Nat, s.heap.size ≤ q → A q := fun q h => by rw [← hAe]; exact Or.inr h
  have hS : va_S A s.heap s.heap [] := va_S.rf
  have hP : va_P (dC, dI) vwCl [zX6 adM ms_samples q_a1 q_a2 q_b q_deadTime q_load q_measure q_before q_past q_gain q_low q_high q_setpoint q_integral q_guard q_share q_mode q_hand q_follows q_hasMaster q_isStarved q_held q_sum q_lastError q_lastRate q_goesOn q_points q_at q_then q_experiment q_center q_height q_band q_isUp q_gone q_risings q_second q_greatest q_least q_period q_swing ms_thrown, zAI cI q_held 3 m_held] s.heap := hP
  have hl := lv_entry ([.ref adM, .int lp]) (n := 2) (Nat.le_of_ble_eq_true rfl)
  rw [lg_entry_eq]
  generalize (lg_sl ([.ref adM, .int lp]) ++ List.replicate (2 - (lg_sl ([.ref adM, .int lp])).length) Slot.unset).toArray = ls at hl ⊢
  have hl : lv_has ls 2 [(0, .ref adM), (1, .int lp)] := hl
  refine hh_name (fun Q hQ => ?_)
  refine lv_aload_n hx hb dX6_held_0 rfl (lv_at hl 0 rfl) ?_
  refine lv_iload_n hx hb dX6_held_1 rfl (lv_at hl 1 rfl) ?_
  refine hh_calli (w2 := [zX6 adM ms_samples q_a1 q_a2 q_b q_deadTime q_load q_measure q_before q_past q_gain q_low q_high q_setpoint q_integral q_guard q_share q_mode q_hand q_follows q_hasMaster q_isStarved q_held q_sum q_lastError q_lastRate q_goesOn q_points q_at q_then q_experiment q_center q_height q_band q_isUp q_gone q_risings q_second q_greatest q_least q_period q_swing (f_X6_isAsked_j1_1 lp), zAI cI q_held 3 m_held]) (va_runV (As := [.int lp]) (rest := []) ⟨hx, hb, hml, hown, hts⟩ (c_X6_isAsked l dC dI cI cJ cZ cO adM ms_samples q_a1 q_a2 q_b q_deadTime q_load q_measure q_before q_past q_gain q_low q_high q_setpoint q_integral q_guard q_share q_mode q_hand q_follows q_hasMaster q_isStarved q_held q_sum q_lastError q_lastRate q_goesOn q_points q_at q_then q_experiment q_center q_height q_band q_isUp q_gone q_risings q_second q_greatest q_least q_period q_swing ms_thrown lp _) (cwV 1 hts (gd_V wd_5_65 wd_5_67 wd_p_22 wd_1_7 wd_5_68) rfl rfl rfl (by decide +kernel) ⟨Nat.le_of_ble_eq_true rfl, Nat.le_of_ble_eq_true rfl⟩) (hh_pV (ci := 6) (q := (RX6, TX6, 42)) (q0 := 0) rfl rfl gU_c (fun _ _ _ => trivial) hK hP hD [0] rfl rfl) rfl rfl hl.1 rfl (lv_room (Nat.le_of_ble_eq_true rfl)) dX6_held_2 ⟨Nat.le_of_ble_eq_true rfl, Nat.le_of_ble_eq_true rfl⟩) hP hD hS hA [0] [1] [1, 0] rfl rfl rfl (by decide) rfl rfl (fun H locs hP hD hS => ?_)
  have J1 : ∀ (H : Heap) (locs : List Loc) (ls : Array Slot), va_P (dC, dI) vwCl [zX6 adM ms_samples q_a1 q_a2 q_b q_deadTime q_load q_measure q_before q_past q_gain q_low q_high q_setpoint q_integral q_guard q_share q_mode q_hand q_follows q_hasMaster q_isStarved q_held q_sum q_lastError q_lastRate q_goesOn q_points q_at q_then q_experiment q_center q_height q_band q_isUp q_gone q_risings q_second q_greatest q_least q_period q_swing (f_X6_isAsked_j1_1 lp), zAI cI q_held 3 m_held] H → va_D A [zX6 adM ms_samples q_a1 q_a2 q_b q_deadTime q_load q_measure q_before q_past q_gain q_low q_high q_setpoint q_integral q_guard q_share q_mode q_hand q_follows q_hasMaster q_isStarved q_held q_sum q_lastError q_lastRate q_goesOn q_points q_at q_then q_experiment q_center q_height q_band q_isUp q_gone q_risings q_second q_greatest q_least q_period q_swing (f_X6_isAsked_j1_1 lp), zAI cI q_held 3 m_held] → va_S A s.heap H locs → lv_has ls 2 [(0, .ref adM), (1, .int lp)] → W p l e (headSpec (Cond.code yX6_held cX6_held 2 (some .int) :: wAll) ({ frames := 2, cells := 0, slots := 0, locals := 42 })).room s m ([.ref adM, .int lp] : List Value).toArray below meth c H locs 0 0 Q (F0 m 18 ls [.int (f_X6_held_j1_1 m_held lp)]) := by
    intro H locs ls hP hD hS hl
    exact hh_reti hQ (rfl) hx hb hr hlocks hP hK hD hS dX6_held_18
  refine lv_if_eq (tgt := 17) hx hb dX6_held_5 (by decide) (fun h1 => ?_) (fun h1 => ?_)
  · skip
    refine lv_iconst (v := 0) hx hb dX6_held_17 (by decide) ?_
    have e2 : (f_X6_held_j1_1 m_held lp) = (0 : Int32) := if_pos h1
    refine hh_seti (y := (f_X6_held_j1_1 m_held lp)) (if_pos h1) ?_
    exact J1 _ _ _ (hP) (hD) hS (lv_sub hl [0, 1] rfl)
  · skip
    refine lv_aload_n hx hb dX6_held_8 rfl (lv_at hl 0 rfl) ?_
    refine va_get (D := (dC, dI)) (ci := 6) (v := .ref q_held) (C := RX6) (T := TX6) (N := 42) hx hb hts inW_X6 hown hK hP 0 rfl rfl 21 (by decide) (hts _ wd_4_77) (fun _ h9 => h9) rfl dX6_held_9 ?_
    refine lv_iload_n hx hb dX6_held_12 rfl (lv_at hl 1 rfl) ?_
    refine va_iald hx hb hK hP 1 0 rfl rfl (i := lp) (ix_of (P := fun lp => vp_in lp 3) (asked3 (by assumption)) (ix_d (by decide)) (ix_d (by decide)) (ix_d (by decide))) dX6_held_13 ?_
    refine lv_goto (tgt := 18) hx hb dX6_held_14 (by decide) ?_
    have e3 : (f_X6_held_j1_1 m_held lp) = (m_held lp.toNatClampNeg) := if_neg h1
    refine hh_seti (y := (f_X6_held_j1_1 m_held lp)) (if_neg h1) ?_
    exact J1 _ _ _ (hP) (hD) hS (lv_sub hl [0, 1] rfl)
def f_X6_experiment_j1_1 (m_experiment : Nat → Int32) (lp : Int32) : Int32 := if (f_X6_isAsked_r lp) = (0 : Int32) then (0 : Int32) else (m_experiment lp.toNatClampNeg)
set_option maxHeartbeats 4000000 in
set_option maxRecDepth 100000 in
theorem c_X6_experiment (l : Launch) (dC : Nat → ClassId) (dI : Nat → Nat → Nat) (cI cJ cZ cO : ClassId) (adM : Nat) (ms_samples : Int32) (q_a1 q_a2 q_b q_deadTime q_load q_measure q_before q_past q_gain q_low q_high q_setpoint q_integral q_guard q_share q_mode q_hand q_follows q_hasMaster q_isStarved q_held q_sum q_lastError q_lastRate q_goesOn q_points q_at q_then q_experiment q_center q_height q_band q_isUp q_gone q_risings q_second q_greatest q_least q_period q_swing : Nat) (ms_thrown : Int32) (m_experiment : Nat → Int32) (lp : Int32) (sz : Nat)  : Met l yX6_experiment (Cond.code yX6_experiment cX6_experiment 2 (some .int) :: wAll) ({ frames := 2, cells := 0, slots := 0, locals := 42 }) (va_Pc [.ref adM, .int lp] (gP (dC, dI) [zX6 adM ms_samples q_a1 q_a2 q_b q_deadTime q_load q_measure q_before q_past q_gain q_low q_high q_setpoint q_integral q_guard q_share q_mode q_hand q_follows q_hasMaster q_isStarved q_held q_sum q_lastError q_lastRate q_goesOn q_points q_at q_then q_experiment q_center q_height q_band q_isUp q_gone q_risings q_second q_greatest q_least q_period q_swing ms_thrown, zAI cI q_experiment 3 m_experiment] (tyG cI cJ cZ cO) sz gU)) (va_Qi (fun r (_ : Unit) => r = (f_X6_experiment_j1_1 m_experiment lp)) (fun _ t => gB (dC, dI) (va_A [zX6 adM ms_samples q_a1 q_a2 q_b q_deadTime q_load q_measure q_before q_past q_gain q_low q_high q_setpoint q_integral q_guard q_share q_mode q_hand q_follows q_hasMaster q_isStarved q_held q_sum q_lastError q_lastRate q_goesOn q_points q_at q_then q_experiment q_center q_height q_band q_isUp q_gone q_risings q_second q_greatest q_least q_period q_swing ms_thrown, zAI cI q_experiment 3 m_experiment] sz) [zX6 adM ms_samples q_a1 q_a2 q_b q_deadTime q_load q_measure q_before q_past q_gain q_low q_high q_setpoint q_integral q_guard q_share q_mode q_hand q_follows q_hasMaster q_isStarved q_held q_sum q_lastError q_lastRate q_goesOn q_points q_at q_then q_experiment q_center q_height q_band q_isUp q_gone q_risings q_second q_greatest q_least q_period q_swing (f_X6_isAsked_j1_1 lp), zAI cI q_experiment 3 m_experiment] (tyG cI cJ cZ cO) t) (va_A [zX6 adM ms_samples q_a1 q_a2 q_b q_deadTime q_load q_measure q_before q_past q_gain q_low q_high q_setpoint q_integral q_guard q_share q_mode q_hand q_follows q_hasMaster q_isStarved q_held q_sum q_lastError q_lastRate q_goesOn q_points q_at q_then q_experiment q_center q_height q_band q_isUp q_gone q_risings q_second q_greatest q_least q_period q_swing ms_thrown, zAI cI q_experiment 3 m_experiment] sz)) 0 0 (va_A [zX6 adM ms_samples q_a1 q_a2 q_b q_deadTime q_load q_measure q_before q_past q_gain q_low q_high q_setpoint q_integral q_guard q_share q_mode q_hand q_follows q_hasMaster q_isStarved q_held q_sum q_lastError q_lastRate q_goesOn q_points q_at q_then q_experiment q_center q_height q_band q_isUp q_gone q_risings q_second q_greatest q_least q_period q_swing ms_thrown, zAI cI q_experiment 3 m_experiment] sz) := by
  refine Met.ofW (cc := cX6_experiment) (maxL := 2) (ret := (some .int)) (by decide) rfl ?_
  intro p e s m args below meth c s₁ B hml hv
  obtain ⟨rfl, hsz, hP, hK, hD0, hG⟩ := hv
  have hx := B.exec
  have hb := B.bytes
  have hr := B.returns
  have hts := ht_of B.pre
  have hown : s.vm.findClass RX6 = some m.cls := findClass_of_methodNamed B.named
  have hlocks := B.notSynchronized
  subst hsz
  have hD := hD0.self (sz := s.heap.size)
  generalize hAe : va_A [zX6 adM ms_samples q_a1 q_a2 q_b q_deadTime q_load q_measure q_before q_past q_gain q_low q_high q_setpoint q_integral q_guard q_share q_mode q_hand q_follows q_hasMaster q_isStarved q_held q_sum q_lastError q_lastRate q_goesOn q_points q_at q_then q_experiment q_center q_height q_band q_isUp q_gone q_risings q_second q_greatest q_least q_period q_swing ms_thrown, zAI cI q_experiment 3 m_experiment] s.heap.size = A at hD ⊢
  have hA : ∀ q : Nat, s.heap.size ≤ q → A q := fun q h => by rw [← hAe]; exact Or.inr h
  have hS : va_S A s.heap s.heap [] := va_S.rf
  have hP : va_P (dC, dI) vwCl [zX6 adM ms_samples q_a1 q_a2 q_b q_deadTime q_load q_measure q_before q_past q_gain q_low q_high q_setpoint q_integral q_guard q_share q_mode q_hand q_follows q_hasMaster q_isStarved q_held q_sum q_lastError q_lastRate q_goesOn q_points q_at q_then q_experiment q_center q_height q_band q_isUp q_gone q_risings q_second q_greatest q_least q_period q_swing ms_thrown, zAI cI q_experiment 3 m_experiment] s.heap := hP
  have hl := lv_entry ([.ref adM, .int lp]) (n := 2) (Nat.le_of_ble_eq_true rfl)
  rw [lg_entry_eq]
  generalize (lg_sl ([.ref adM, .int lp]) ++ List.replicate (2 - (lg_sl ([.ref adM, .int lp])).length) Slot.unset).toArray = ls at hl ⊢
  have hl : lv_has ls 2 [(0, .ref adM), (1, .int lp)] := hl
  refine hh_name (fun Q hQ => ?_)
  refine lv_aload_n hx hb dX6_experiment_0 rfl (lv_at hl 0 rfl) ?_
  refine lv_iload_n hx hb dX6_experiment_1 rfl (lv_at hl 1 rfl) ?_
  refine hh_calli (w2 := [zX6 adM ms_samples q_a1 q_a2 q_b q_deadTime q_load q_measure q_before q_past q_gain q_low q_high q_setpoint q_integral q_guard q_share q_mode q_hand q_follows q_hasMaster q_isStarved q_held q_sum q_lastError q_lastRate q_goesOn q_points q_at q_then q_experiment q_center q_height q_band q_isUp q_gone q_risings q_second q_greatest q_least q_period q_swing (f_X6_isAsked_j1_1 lp), zAI cI q_experiment 3 m_experiment]) (va_runV (As := [.int lp]) (rest := []) ⟨hx, hb, hml, hown, hts⟩ (c_X6_isAsked l dC dI cI cJ cZ cO adM ms_samples q_a1 q_a2 q_b q_deadTime q_load q_measure q_before q_past q_gain q_low q_high q_setpoint q_integral q_guard q_share q_mode q_hand q_follows q_hasMaster q_isStarved q_held q_sum q_lastError q_lastRate q_goesOn q_points q_at q_then q_experiment q_center q_height q_band q_isUp q_gone q_risings q_second q_greatest q_least q_period q_swing ms_thrown lp _) (cwV 1 hts (gd_V wd_5_65 wd_5_67 wd_p_22 wd_1_7 wd_5_68) rfl rfl rfl (by decide +kernel) ⟨Nat.le_of_ble_eq_true rfl, Nat.le_of_ble_eq_true rfl⟩) (hh_pV (ci := 6) (q := (RX6, TX6, 42)) (q0 := 0) rfl rfl gU_c (fun _ _ _ => trivial) hK hP hD [0] rfl rfl) rfl rfl hl.1 rfl (lv_room (Nat.le_of_ble_eq_true rfl)) dX6_experiment_2 ⟨Nat.le_of_ble_eq_true rfl, Nat.le_of_ble_eq_true rfl⟩) hP hD hS hA [0] [1] [1, 0] rfl rfl rfl (by decide) rfl rfl (fun H locs hP hD hS => ?_)
  have J1 : ∀ (H : Heap) (locs : List Loc) (ls : Array Slot), va_P (dC, dI) vwCl [zX6 adM ms_samples q_a1 q_a2 q_b q_deadTime q_load q_measure q_before q_past q_gain q_low q_high q_setpoint q_integral q_guard q_share q_mode q_hand q_follows q_hasMaster q_isStarved q_held q_sum q_lastError q_lastRate q_goesOn q_points q_at q_then q_experiment q_center q_height q_band q_isUp q_gone q_risings q_second q_greatest q_least q_period q_swing (f_X6_isAsked_j1_1 lp), zAI cI q_experiment 3 m_experiment] H → va_D A [zX6 adM ms_samples q_a1 q_a2 q_b q_deadTime q_load q_measure q_before q_past q_gain q_low q_high q_setpoint q_integral q_guard q_share q_mode q_hand q_follows q_hasMaster q_isStarved q_held q_sum q_lastError q_lastRate q_goesOn q_points q_at q_then q_experiment q_center q_height q_band q_isUp q_gone q_risings q_second q_greatest q_least q_period q_swing (f_X6_isAsked_j1_1 lp), zAI cI q_experiment 3 m_experiment] → va_S A s.heap H locs → lv_has ls 2 [(0, .ref adM), (1, .int lp)] → W p l e (headSpec (Cond.code yX6_experiment cX6_experiment 2 (some .int) :: wAll) ({ frames := 2, cells := 0, slots := 0, locals := 42 })).room s m ([.ref adM, .int lp] : List Value).toArray below meth c H locs 0 0 Q (F0 m 18 ls [.int (f_X6_experiment_j1_1 m_experiment lp)]) := by
    intro H locs ls hP hD hS hl
    exact hh_reti hQ (rfl) hx hb hr hlocks hP hK hD hS dX6_experiment_18
  refine lv_if_eq (tgt := 17) hx hb dX6_experiment_5 (by decide) (fun h1 => ?_) (fun h1 => ?_)
  · skip
    refine lv_iconst (v := 0) hx hb dX6_experiment_17 (by decide) ?_
    have e2 : (f_X6_experiment_j1_1 m_experiment lp) = (0 : Int32) := if_pos h1
    refine hh_seti (y := (f_X6_experiment_j1_1 m_experiment lp)) (if_pos h1) ?_
    exact J1 _ _ _ (hP) (hD) hS (lv_sub hl [0, 1] rfl)
  · skip
    refine lv_aload_n hx hb dX6_experiment_8 rfl (lv_at hl 0 rfl) ?_
    refine va_get (D := (dC, dI)) (ci := 6) (v := .ref q_experiment) (C := RX6) (T := TX6) (N := 42) hx hb hts inW_X6 hown hK hP 0 rfl rfl 29 (by decide) (hts _ wd_4_85) (fun _ h9 => h9) rfl dX6_experiment_9 ?_
    refine lv_iload_n hx hb dX6_experiment_12 rfl (lv_at hl 1 rfl) ?_
    refine va_iald hx hb hK hP 1 0 rfl rfl (i := lp) (ix_of (P := fun lp => vp_in lp 3) (asked3 (by assumption)) (ix_d (by decide)) (ix_d (by decide)) (ix_d (by decide))) dX6_experiment_13 ?_
    refine lv_goto (tgt := 18) hx hb dX6_experiment_14 (by decide) ?_
    have e3 : (f_X6_experiment_j1_1 m_experiment lp) = (m_experiment lp.toNatClampNeg) := if_neg h1
    refine hh_seti (y := (f_X6_experiment_j1_1 m_experiment lp)) (if_neg h1) ?_
    exact J1 _ _ _ (hP) (hD) hS (lv_sub hl [0, 1] rfl)
def f_X6_period_j1_1 (m_experiment m_period : Nat → Int32) (lp : Int32) : Int32 := if (f_X6_isDone_r m_experiment lp) = (0 : Int32) then (0 : Int32) else (m_period lp.toNatClampNeg)
set_option maxHeartbeats 4000000 in
set_option maxRecDepth 100000 in
theorem c_X6_period (l : Launch) (dC : Nat → ClassId) (dI : Nat → Nat → Nat) (cI cJ cZ cO : ClassId) (adM : Nat) (ms_samples : Int32) (q_a1 q_a2 q_b q_deadTime q_load q_measure q_before q_past q_gain q_low q_high q_setpoint q_integral q_guard q_share q_mode q_hand q_follows q_hasMaster q_isStarved q_held q_sum q_lastError q_lastRate q_goesOn q_points q_at q_then q_experiment q_center q_height q_band q_isUp q_gone q_risings q_second q_greatest q_least q_period q_swing : Nat) (ms_thrown : Int32) (m_experiment m_period : Nat → Int32) (lp : Int32) (sz : Nat)  : Met l yX6_period (Cond.code yX6_period cX6_period 2 (some .int) :: wAll) ({ frames := 2, cells := 0, slots := 0, locals := 42 }) (va_Pc [.ref adM, .int lp] (gP (dC, dI) [zX6 adM ms_samples q_a1 q_a2 q_b q_deadTime q_load q_measure q_before q_past q_gain q_low q_high q_setpoint q_integral q_guard q_share q_mode q_hand q_follows q_hasMaster q_isStarved q_held q_sum q_lastError q_lastRate q_goesOn q_points q_at q_then q_experiment q_center q_height q_band q_isUp q_gone q_risings q_second q_greatest q_least q_period q_swing ms_thrown, zAI cI q_experiment 3 m_experiment, zAI cI q_period 3 m_period] (tyG cI cJ cZ cO) sz gU)) (va_Qi (fun r (_ : Unit) => r = (f_X6_period_j1_1 m_experiment m_period lp)) (fun _ t => gB (dC, dI) (va_A [zX6 adM ms_samples q_a1 q_a2 q_b q_deadTime q_load q_measure q_before q_past q_gain q_low q_high q_setpoint q_integral q_guard q_share q_mode q_hand q_follows q_hasMaster q_isStarved q_held q_sum q_lastError q_lastRate q_goesOn q_points q_at q_then q_experiment q_center q_height q_band q_isUp q_gone q_risings q_second q_greatest q_least q_period q_swing ms_thrown, zAI cI q_experiment 3 m_experiment, zAI cI q_period 3 m_period] sz) [zX6 adM ms_samples q_a1 q_a2 q_b q_deadTime q_load q_measure q_before q_past q_gain q_low q_high q_setpoint q_integral q_guard q_share q_mode q_hand q_follows q_hasMaster q_isStarved q_held q_sum q_lastError q_lastRate q_goesOn q_points q_at q_then q_experiment q_center q_height q_band q_isUp q_gone q_risings q_second q_greatest q_least q_period q_swing (f_X6_isDone_j1_1 m_experiment lp), zAI cI q_experiment 3 m_experiment, zAI cI q_period 3 m_period] (tyG cI cJ cZ cO) t) (va_A [zX6 adM ms_samples q_a1 q_a2 q_b q_deadTime q_load q_measure q_before q_past q_gain q_low q_high q_setpoint q_integral q_guard q_share q_mode q_hand q_follows q_hasMaster q_isStarved q_held q_sum q_lastError q_lastRate q_goesOn q_points q_at q_then q_experiment q_center q_height q_band q_isUp q_gone q_risings q_second q_greatest q_least q_period q_swing ms_thrown, zAI cI q_experiment 3 m_experiment, zAI cI q_period 3 m_period] sz)) 0 0 (va_A [zX6 adM ms_samples q_a1 q_a2 q_b q_deadTime q_load q_measure q_before q_past q_gain q_low q_high q_setpoint q_integral q_guard q_share q_mode q_hand q_follows q_hasMaster q_isStarved q_held q_sum q_lastError q_lastRate q_goesOn q_points q_at q_then q_experiment q_center q_height q_band q_isUp q_gone q_risings q_second q_greatest q_least q_period q_swing ms_thrown, zAI cI q_experiment 3 m_experiment, zAI cI q_period 3 m_period] sz) := by
  refine Met.ofW (cc := cX6_period) (maxL := 2) (ret := (some .int)) (by decide) rfl ?_
  intro p e s m args below meth c s₁ B hml hv
  obtain ⟨rfl, hsz, hP, hK, hD0, hG⟩ := hv
  have hx := B.exec
  have hb := B.bytes
  have hr := B.returns
  have hts := ht_of B.pre
  have hown : s.vm.findClass RX6 = some m.cls := findClass_of_methodNamed B.named
  have hlocks := B.notSynchronized
  subst hsz
  have hD := hD0.self (sz := s.heap.size)
  generalize hAe : va_A [zX6 adM ms_samples q_a1 q_a2 q_b q_deadTime q_load q_measure q_before q_past q_gain q_low q_high q_setpoint q_integral q_guard q_share q_mode q_hand q_follows q_hasMaster q_isStarved q_held q_sum q_lastError q_lastRate q_goesOn q_points q_at q_then q_experiment q_center q_height q_band q_isUp q_gone q_risings q_second q_greatest q_least q_period q_swing ms_thrown, zAI cI q_experiment 3 m_experiment, zAI cI q_period 3 m_period] s.heap.size = A at hD ⊢
  have hA : ∀ q : Nat, s.heap.size ≤ q → A q := fun q h => by rw [← hAe]; exact Or.inr h
  have hS : va_S A s.heap s.heap [] := va_S.rf
  have hP : va_P (dC, dI) vwCl [zX6 adM ms_samples q_a1 q_a2 q_b q_deadTime q_load q_measure q_before q_past q_gain q_low q_high q_setpoint q_integral q_guard q_share q_mode q_hand q_follows q_hasMaster q_isStarved q_held q_sum q_lastError q_lastRate q_goesOn q_points q_at q_then q_experiment q_center q_height q_band q_isUp q_gone q_risings q_second q_greatest q_least q_period q_swing ms_thrown, zAI cI q_experiment 3 m_experiment, zAI cI q_period 3 m_period] s.heap := hP
  have hl := lv_entry ([.ref adM, .int lp]) (n := 2) (Nat.le_of_ble_eq_true rfl)
  rw [lg_entry_eq]
  generalize (lg_sl ([.ref adM, .int lp]) ++ List.replicate (2 - (lg_sl ([.ref adM, .int lp])).length) Slot.unset).toArray = ls at hl ⊢
  have hl : lv_has ls 2 [(0, .ref adM), (1, .int lp)] := hl
  refine hh_name (fun Q hQ => ?_)
  refine lv_aload_n hx hb dX6_period_0 rfl (lv_at hl 0 rfl) ?_
  refine lv_iload_n hx hb dX6_period_1 rfl (lv_at hl 1 rfl) ?_
  refine hh_calli (w2 := [zX6 adM ms_samples q_a1 q_a2 q_b q_deadTime q_load q_measure q_before q_past q_gain q_low q_high q_setpoint q_integral q_guard q_share q_mode q_hand q_follows q_hasMaster q_isStarved q_held q_sum q_lastError q_lastRate q_goesOn q_points q_at q_then q_experiment q_center q_height q_band q_isUp q_gone q_risings q_second q_greatest q_least q_period q_swing (f_X6_isDone_j1_1 m_experiment lp), zAI cI q_experiment 3 m_experiment, zAI cI q_period 3 m_period]) (va_runV (As := [.int lp]) (rest := []) ⟨hx, hb, hml, hown, hts⟩ (c_X6_isDone l dC dI cI cJ cZ cO adM ms_samples q_a1 q_a2 q_b q_deadTime q_load q_measure q_before q_past q_gain q_low q_high q_setpoint q_integral q_guard q_share q_mode q_hand q_follows q_hasMaster q_isStarved q_held q_sum q_lastError q_lastRate q_goesOn q_points q_at q_then q_experiment q_center q_height q_band q_isUp q_gone q_risings q_second q_greatest q_least q_period q_swing ms_thrown m_experiment lp _) (cwV 1 hts (gd_V wd_5_114 wd_5_116 wd_p_23 wd_1_7 wd_5_117) rfl rfl rfl (by decide +kernel) ⟨Nat.le_of_ble_eq_true rfl, Nat.le_of_ble_eq_true rfl⟩) (hh_pV (ci := 6) (q := (RX6, TX6, 42)) (q0 := 0) rfl rfl gU_c (fun _ _ _ => trivial) hK hP hD [0, 1] rfl rfl) rfl rfl hl.1 rfl (lv_room (Nat.le_of_ble_eq_true rfl)) dX6_period_2 ⟨Nat.le_of_ble_eq_true rfl, Nat.le_of_ble_eq_true rfl⟩) hP hD hS hA [0, 1] [2] [1, 2, 0] rfl rfl rfl (by decide) rfl rfl (fun H locs hP hD hS => ?_)
  have J1 : ∀ (H : Heap) (locs : List Loc) (ls : Array Slot), va_P (dC, dI) vwCl [zX6 adM ms_samples q_a1 q_a2 q_b q_deadTime q_load q_measure q_before q_past q_gain q_low q_high q_setpoint q_integral q_guard q_share q_mode q_hand q_follows q_hasMaster q_isStarved q_held q_sum q_lastError q_lastRate q_goesOn q_points q_at q_then q_experiment q_center q_height q_band q_isUp q_gone q_risings q_second q_greatest q_least q_period q_swing (f_X6_isDone_j1_1 m_experiment lp), zAI cI q_experiment 3 m_experiment, zAI cI q_period 3 m_period] H → va_D A [zX6 adM ms_samples q_a1 q_a2 q_b q_deadTime q_load q_measure q_before q_past q_gain q_low q_high q_setpoint q_integral q_guard q_share q_mode q_hand q_follows q_hasMaster q_isStarved q_held q_sum q_lastError q_lastRate q_goesOn q_points q_at q_then q_experiment q_center q_height q_band q_isUp q_gone q_risings q_second q_greatest q_least q_period q_swing (f_X6_isDone_j1_1 m_experiment lp), zAI cI q_experiment 3 m_experiment, zAI cI q_period 3 m_period] → va_S A s.heap H locs → lv_has ls 2 [(0, .ref adM), (1, .int lp)] → W p l e (headSpec (Cond.code yX6_period cX6_period 2 (some .int) :: wAll) ({ frames := 2, cells := 0, slots := 0, locals := 42 })).room s m ([.ref adM, .int lp] : List Value).toArray below meth c H locs 0 0 Q (F0 m 18 ls [.int (f_X6_period_j1_1 m_experiment m_period lp)]) := by
    intro H locs ls hP hD hS hl
    exact hh_reti hQ (rfl) hx hb hr hlocks hP hK hD hS dX6_period_18
  refine lv_if_eq (tgt := 17) hx hb dX6_period_5 (by decide) (fun h1 => ?_) (fun h1 => ?_)
  · skip
    refine lv_iconst (v := 0) hx hb dX6_period_17 (by decide) ?_
    have e2 : (f_X6_period_j1_1 m_experiment m_period lp) = (0 : Int32) := if_pos h1
    refine hh_seti (y := (f_X6_period_j1_1 m_experiment m_period lp)) (if_pos h1) ?_
    exact J1 _ _ _ (hP) (hD) hS (lv_sub hl [0, 1] rfl)
  · skip
    refine lv_aload_n hx hb dX6_period_8 rfl (lv_at hl 0 rfl) ?_
    refine va_get (D := (dC, dI)) (ci := 6) (v := .ref q_period) (C := RX6) (T := TX6) (N := 42) hx hb hts inW_X6 hown hK hP 0 rfl rfl 39 (by decide) (hts _ wd_4_95) (fun _ h9 => h9) rfl dX6_period_9 ?_
    refine lv_iload_n hx hb dX6_period_12 rfl (lv_at hl 1 rfl) ?_
    refine va_iald hx hb hK hP 2 0 rfl rfl (i := lp) (ix_of (P := fun lp => vp_in lp 3) (done3 (by assumption)) (ix_d (by decide)) (ix_d (by decide)) (ix_d (by decide))) dX6_period_13 ?_
    refine lv_goto (tgt := 18) hx hb dX6_period_14 (by decide) ?_
    have e3 : (f_X6_period_j1_1 m_experiment m_period lp) = (m_period lp.toNatClampNeg) := if_neg h1
    refine hh_seti (y := (f_X6_period_j1_1 m_experiment m_period lp)) (if_neg h1) ?_
    exact J1 _ _ _ (hP) (hD) hS (lv_sub hl [0, 1] rfl)
def f_X6_swing_j1_1 (m_experiment : Nat → Int32) (m_swing : Nat → Int64) (lp : Int32) : Int64 := if (f_X6_isDone_r m_experiment lp) = (0 : Int32) then (0 : Int64) else (m_swing lp.toNatClampNeg)
set_option maxHeartbeats 4000000 in
set_option maxRecDepth 100000 in
theorem c_X6_swing (l : Launch) (dC : Nat → ClassId) (dI : Nat → Nat → Nat) (cI cJ cZ cO : ClassId) (adM : Nat) (ms_samples : Int32) (q_a1 q_a2 q_b q_deadTime q_load q_measure q_before q_past q_gain q_low q_high q_setpoint q_integral q_guard q_share q_mode q_hand q_follows q_hasMaster q_isStarved q_held q_sum q_lastError q_lastRate q_goesOn q_points q_at q_then q_experiment q_center q_height q_band q_isUp q_gone q_risings q_second q_greatest q_least q_period q_swing : Nat) (ms_thrown : Int32) (m_experiment : Nat → Int32) (m_swing : Nat → Int64) (lp : Int32) (sz : Nat)  : Met l yX6_swing (Cond.code yX6_swing cX6_swing 2 (some .long) :: wAll) ({ frames := 2, cells := 0, slots := 0, locals := 42 }) (va_Pc [.ref adM, .int lp] (gP (dC, dI) [zX6 adM ms_samples q_a1 q_a2 q_b q_deadTime q_load q_measure q_before q_past q_gain q_low q_high q_setpoint q_integral q_guard q_share q_mode q_hand q_follows q_hasMaster q_isStarved q_held q_sum q_lastError q_lastRate q_goesOn q_points q_at q_then q_experiment q_center q_height q_band q_isUp q_gone q_risings q_second q_greatest q_least q_period q_swing ms_thrown, zAI cI q_experiment 3 m_experiment, zAJ cJ q_swing 3 m_swing] (tyG cI cJ cZ cO) sz gU)) (va_Ql (fun r (_ : Unit) => r = (f_X6_swing_j1_1 m_experiment m_swing lp)) (fun _ t => gB (dC, dI) (va_A [zX6 adM ms_samples q_a1 q_a2 q_b q_deadTime q_load q_measure q_before q_past q_gain q_low q_high q_setpoint q_integral q_guard q_share q_mode q_hand q_follows q_hasMaster q_isStarved q_held q_sum q_lastError q_lastRate q_goesOn q_points q_at q_then q_experiment q_center q_height q_band q_isUp q_gone q_risings q_second q_greatest q_least q_period q_swing ms_thrown, zAI cI q_experiment 3 m_experiment, zAJ cJ q_swing 3 m_swing] sz) [zX6 adM ms_samples q_a1 q_a2 q_b q_deadTime q_load q_measure q_before q_past q_gain q_low q_high q_setpoint q_integral q_guard q_share q_mode q_hand q_follows q_hasMaster q_isStarved q_held q_sum q_lastError q_lastRate q_goesOn q_points q_at q_then q_experiment q_center q_height q_band q_isUp q_gone q_risings q_second q_greatest q_least q_period q_swing (f_X6_isDone_j1_1 m_experiment lp), zAI cI q_experiment 3 m_experiment, zAJ cJ q_swing 3 m_swing] (tyG cI cJ cZ cO) t) (va_A [zX6 adM ms_samples q_a1 q_a2 q_b q_deadTime q_load q_measure q_before q_past q_gain q_low q_high q_setpoint q_integral q_guard q_share q_mode q_hand q_follows q_hasMaster q_isStarved q_held q_sum q_lastError q_lastRate q_goesOn q_points q_at q_then q_experiment q_center q_height q_band q_isUp q_gone q_risings q_second q_greatest q_least q_period q_swing ms_thrown, zAI cI q_experiment 3 m_experiment, zAJ cJ q_swing 3 m_swing] sz)) 0 0 (va_A [zX6 adM ms_samples q_a1 q_a2 q_b q_deadTime q_load q_measure q_before q_past q_gain q_low q_high q_setpoint q_integral q_guard q_share q_mode q_hand q_follows q_hasMaster q_isStarved q_held q_sum q_lastError q_lastRate q_goesOn q_points q_at q_then q_experiment q_center q_height q_band q_isUp q_gone q_risings q_second q_greatest q_least q_period q_swing ms_thrown, zAI cI q_experiment 3 m_experiment, zAJ cJ q_swing 3 m_swing] sz) := by
  refine Met.ofW (cc := cX6_swing) (maxL := 2) (ret := (some .long)) (by decide) rfl ?_
  intro p e s m args below meth c s₁ B hml hv
  obtain ⟨rfl, hsz, hP, hK, hD0, hG⟩ := hv
  have hx := B.exec
  have hb := B.bytes
  have hr := B.returns
  have hts := ht_of B.pre
  have hown : s.vm.findClass RX6 = some m.cls := findClass_of_methodNamed B.named
  have hlocks := B.notSynchronized
  subst hsz
  have hD := hD0.self (sz := s.heap.size)
  generalize hAe : va_A [zX6 adM ms_samples q_a1 q_a2 q_b q_deadTime q_load q_measure q_before q_past q_gain q_low q_high q_setpoint q_integral q_guard q_share q_mode q_hand q_follows q_hasMaster q_isStarved q_held q_sum q_lastError q_lastRate q_goesOn q_points q_at q_then q_experiment q_center q_height q_band q_isUp q_gone q_risings q_second q_greatest q_least q_period q_swing ms_thrown, zAI cI q_experiment 3 m_experiment, zAJ cJ q_swing 3 m_swing] s.heap.size = A at hD ⊢
  have hA : ∀ q : Nat, s.heap.size ≤ q → A q := fun q h => by rw [← hAe]; exact Or.inr h
  have hS : va_S A s.heap s.heap [] := va_S.rf
  have hP : va_P (dC, dI) vwCl [zX6 adM ms_samples q_a1 q_a2 q_b q_deadTime q_load q_measure q_before q_past q_gain q_low q_high q_setpoint q_integral q_guard q_share q_mode q_hand q_follows q_hasMaster q_isStarved q_held q_sum q_lastError q_lastRate q_goesOn q_points q_at q_then q_experiment q_center q_height q_band q_isUp q_gone q_risings q_second q_greatest q_least q_period q_swing ms_thrown, zAI cI q_experiment 3 m_experiment, zAJ cJ q_swing 3 m_swing] s.heap := hP
  have hl := lv_entry ([.ref adM, .int lp]) (n := 2) (Nat.le_of_ble_eq_true rfl)
  rw [lg_entry_eq]
  generalize (lg_sl ([.ref adM, .int lp]) ++ List.replicate (2 - (lg_sl ([.ref adM, .int lp])).length) Slot.unset).toArray = ls at hl ⊢
  have hl : lv_has ls 2 [(0, .ref adM), (1, .int lp)] := hl
  refine hh_name (fun Q hQ => ?_)
  refine lv_aload_n hx hb dX6_swing_0 rfl (lv_at hl 0 rfl) ?_
  refine lv_iload_n hx hb dX6_swing_1 rfl (lv_at hl 1 rfl) ?_
  refine hh_calli (w2 := [zX6 adM ms_samples q_a1 q_a2 q_b q_deadTime q_load q_measure q_before q_past q_gain q_low q_high q_setpoint q_integral q_guard q_share q_mode q_hand q_follows q_hasMaster q_isStarved q_held q_sum q_lastError q_lastRate q_goesOn q_points q_at q_then q_experiment q_center q_height q_band q_isUp q_gone q_risings q_second q_greatest q_least q_period q_swing (f_X6_isDone_j1_1 m_experiment lp), zAI cI q_experiment 3 m_experiment, zAJ cJ q_swing 3 m_swing]) (va_runV (As := [.int lp]) (rest := []) ⟨hx, hb, hml, hown, hts⟩ (c_X6_isDone l dC dI cI cJ cZ cO adM ms_samples q_a1 q_a2 q_b q_deadTime q_load q_measure q_before q_past q_gain q_low q_high q_setpoint q_integral q_guard q_share q_mode q_hand q_follows q_hasMaster q_isStarved q_held q_sum q_lastError q_lastRate q_goesOn q_points q_at q_then q_experiment q_center q_height q_band q_isUp q_gone q_risings q_second q_greatest q_least q_period q_swing ms_thrown m_experiment lp _) (cwV 1 hts (gd_V wd_5_114 wd_5_116 wd_p_23 wd_1_7 wd_5_117) rfl rfl rfl (by decide +kernel) ⟨Nat.le_of_ble_eq_true rfl, Nat.le_of_ble_eq_true rfl⟩) (hh_pV (ci := 6) (q := (RX6, TX6, 42)) (q0 := 0) rfl rfl gU_c (fun _ _ _ => trivial) hK hP hD [0, 1] rfl rfl) rfl rfl hl.1 rfl (lv_room (Nat.le_of_ble_eq_true rfl)) dX6_swing_2 ⟨Nat.le_of_ble_eq_true rfl, Nat.le_of_ble_eq_true rfl⟩) hP hD hS hA [0, 1] [2] [1, 2, 0] rfl rfl rfl (by decide) rfl rfl (fun H locs hP hD hS => ?_)
  have J1 : ∀ (H : Heap) (locs : List Loc) (ls : Array Slot), va_P (dC, dI) vwCl [zX6 adM ms_samples q_a1 q_a2 q_b q_deadTime q_load q_measure q_before q_past q_gain q_low q_high q_setpoint q_integral q_guard q_share q_mode q_hand q_follows q_hasMaster q_isStarved q_held q_sum q_lastError q_lastRate q_goesOn q_points q_at q_then q_experiment q_center q_height q_band q_isUp q_gone q_risings q_second q_greatest q_least q_period q_swing (f_X6_isDone_j1_1 m_experiment lp), zAI cI q_experiment 3 m_experiment, zAJ cJ q_swing 3 m_swing] H → va_D A [zX6 adM ms_samples q_a1 q_a2 q_b q_deadTime q_load q_measure q_before q_past q_gain q_low q_high q_setpoint q_integral q_guard q_share q_mode q_hand q_follows q_hasMaster q_isStarved q_held q_sum q_lastError q_lastRate q_goesOn q_points q_at q_then q_experiment q_center q_height q_band q_isUp q_gone q_risings q_second q_greatest q_least q_period q_swing (f_X6_isDone_j1_1 m_experiment lp), zAI cI q_experiment 3 m_experiment, zAJ cJ q_swing 3 m_swing] → va_S A s.heap H locs → lv_has ls 2 [(0, .ref adM), (1, .int lp)] → W p l e (headSpec (Cond.code yX6_swing cX6_swing 2 (some .long) :: wAll) ({ frames := 2, cells := 0, slots := 0, locals := 42 })).room s m ([.ref adM, .int lp] : List Value).toArray below meth c H locs 0 0 Q (F0 m 18 ls [.long (f_X6_swing_j1_1 m_experiment m_swing lp)]) := by
    intro H locs ls hP hD hS hl
    exact hh_retl hQ (rfl) hx hb hr hlocks hP hK hD hS dX6_swing_18
  refine lv_if_eq (tgt := 17) hx hb dX6_swing_5 (by decide) (fun h1 => ?_) (fun h1 => ?_)
  · skip
    refine lv_lconst (v := 0) hx hb dX6_swing_17 (by decide) ?_
    have e2 : (f_X6_swing_j1_1 m_experiment m_swing lp) = (0 : Int64) := if_pos h1
    refine hh_setl (y := (f_X6_swing_j1_1 m_experiment m_swing lp)) (if_pos h1) ?_
    exact J1 _ _ _ (hP) (hD) hS (lv_sub hl [0, 1] rfl)
  · skip
    refine lv_aload_n hx hb dX6_swing_8 rfl (lv_at hl 0 rfl) ?_
    refine va_get (D := (dC, dI)) (ci := 6) (v := .ref q_swing) (C := RX6) (T := TX6) (N := 42) hx hb hts inW_X6 hown hK hP 0 rfl rfl 40 (by decide) (hts _ wd_4_96) (fun _ h9 => h9) rfl dX6_swing_9 ?_
    refine lv_iload_n hx hb dX6_swing_12 rfl (lv_at hl 1 rfl) ?_
    refine va_lald hx hb hK hP 2 1 rfl rfl (i := lp) (ix_of (P := fun lp => vp_in lp 3) (done3 (by assumption)) (ix_d (by decide)) (ix_d (by decide)) (ix_d (by decide))) dX6_swing_13 ?_
    refine lv_goto (tgt := 18) hx hb dX6_swing_14 (by decide) ?_
    have e3 : (f_X6_swing_j1_1 m_experiment m_swing lp) = (m_swing lp.toNatClampNeg) := if_neg h1
    refine hh_setl (y := (f_X6_swing_j1_1 m_experiment m_swing lp)) (if_neg h1) ?_
    exact J1 _ _ _ (hP) (hD) hS (lv_sub hl [0, 1] rfl)
