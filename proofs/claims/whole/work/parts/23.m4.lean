theorem tn3 {n : Int32} (h : n = 0 ∨ n = 1 ∨ n = 2) : n.toNatClampNeg < 3 := by
  rcases h with rfl | rfl | rfl <;> decide
theorem ixA {lp x : Int32} (hn3 : lp = 0 ∨ lp = 1 ∨ lp = 2) (hx : ∃ j : Nat, j ≤ 5 ∧ x = nI j) (h5 : ¬ x = (5 : Int32)) {P : Int32 → Int32 → Prop} (hP : ∀ a, a < 3 → ∀ b, b < 5 → P (nI a) (nI b)) : P lp x := by
  obtain ⟨j, hj, rfl⟩ := hx
  have h4 : j < 5 := by
    rcases Nat.lt_or_ge j 5 with q | q
    · exact q
    · exact absurd (by rw [show j = 5 by omega]; rfl) h5
  rcases hn3 with rfl | rfl | rfl
  · exact hP 0 (by decide) j h4
  · exact hP 1 (by decide) j h4
  · exact hP 2 (by decide) j h4
theorem ixB {lp x : Int32} (hn3 : lp = 0 ∨ lp = 1 ∨ lp = 2) (hx : ∃ j : Nat, j ≤ 5 ∧ x = nI j) (h5 : ¬ x = (0 : Int32)) {P : Int32 → Int32 → Prop} (hP : ∀ a, a < 3 → ∀ b, b < 5 → P (nI a) (nI (b + 1))) : P lp x := by
  obtain ⟨j, hj, rfl⟩ := hx
  have h4 : 0 < j := by
    rcases Nat.lt_or_ge 0 j with q | q
    · exact q
    · exact absurd (by rw [show j = 0 by omega]; rfl) h5
  obtain ⟨i, rfl⟩ : ∃ i, j = i + 1 := ⟨j - 1, by omega⟩
  rcases hn3 with rfl | rfl | rfl
  · exact hP 0 (by decide) i (by omega)
  · exact hP 1 (by decide) i (by omega)
  · exact hP 2 (by decide) i (by omega)
theorem last4 {x : Int32} (hx : ∃ j : Nat, j ≤ 5 ∧ x = nI j) : (x - (1 : Int32)) ≤ (4 : Int32) := by
  obtain ⟨j, hj, rfl⟩ := hx
  have k : ∀ j, j < 6 → (nI j - (1 : Int32)) ≤ (4 : Int32) := by decide +kernel
  exact k j (by omega)
theorem ixK {n x : Int32} (hn3 : n = 0 ∨ n = 1 ∨ n = 2) {b : Nat} (hx : ∃ j : Nat, j < b ∧ x = nI j) {P : Int32 → Int32 → Prop} (hP : ∀ a, a < 3 → ∀ j, j < b → P (nI a) (nI j)) : P n x := by
  obtain ⟨j, hj, rfl⟩ := hx
  rcases hn3 with rfl | rfl | rfl
  · exact hP 0 (by decide) j hj
  · exact hP 1 (by decide) j hj
  · exact hP 2 (by decide) j hj
def f_X6_addPoint_j1_1 (m_points : Nat → Int32) (m_at : Nat → Int64) (lp mev np ni nd : Int32) : Int32 := if (f_X6_isLoop_j1_1 lp) = (0 : Int32) then (0 : Int32) else (if (f_X6_areGains_j1_1 np ni nd) = (0 : Int32) then (0 : Int32) else (if (f_X6_isIn_j1_1 mev (-1000000 : Int32) (1000000 : Int32)) = (0 : Int32) then (0 : Int32) else (if (m_points lp.toNatClampNeg) = (0 : Int32) then (1 : Int32) else (if mev.toInt64 ≤ (m_at ((((5 : Int32) * lp) + (m_points lp.toNatClampNeg)) - (1 : Int32)).toNatClampNeg) then (0 : Int32) else (1 : Int32)))))
theorem f_X6_addPoint_j1_1_z (m_points : Nat → Int32) (m_at : Nat → Int64) (lp mev np ni nd : Int32) : narrow .boolean (.int (f_X6_addPoint_j1_1 m_points m_at lp mev np ni nd)) = .int (f_X6_addPoint_j1_1 m_points m_at lp mev np ni nd) := by
  unfold f_X6_addPoint_j1_1
  repeat' split
  all_goals rfl
def f_X6_addPoint_j2_1 (m_points : Nat → Int32) (m_at : Nat → Int64) (lp mev np ni nd : Int32) : Int32 := if (f_X6_isLoop_j1_1 lp) = (0 : Int32) then (1 : Int32) else (if (f_X6_addPoint_j1_1 m_points m_at lp mev np ni nd) = (0 : Int32) then (2 : Int32) else (if (m_points lp.toNatClampNeg) = (5 : Int32) then (3 : Int32) else (0 : Int32)))
theorem g3_addPoint {m_points : Nat → Int32} {m_at : Nat → Int64} {lp mev np ni nd : Int32} (h : ¬ f_X6_can_j1_1 (f_X6_addPoint_j2_1 m_points m_at lp mev np ni nd) = (0 : Int32)) : lp = 0 ∨ lp = 1 ∨ lp = 2 := by
  refine loop3 (fun hl => h ?_)
  unfold f_X6_addPoint_j2_1
  rw [if_pos hl]
  rfl
def f_X6_addPoint_m_points (m_points : Nat → Int32) (m_at : Nat → Int64) (lp mev np ni nd : Int32) : Nat → Int32 := if (f_X6_can_j1_1 (f_X6_addPoint_j2_1 m_points m_at lp mev np ni nd)) = (0 : Int32) then m_points else (upd m_points lp.toNatClampNeg ((m_points lp.toNatClampNeg) + (1 : Int32)))
def f_X6_addPoint_m_at (m_points : Nat → Int32) (m_at : Nat → Int64) (lp mev np ni nd : Int32) : Nat → Int64 := if (f_X6_can_j1_1 (f_X6_addPoint_j2_1 m_points m_at lp mev np ni nd)) = (0 : Int32) then m_at else (vp_updL m_at (((5 : Int32) * lp) + (m_points lp.toNatClampNeg)).toNatClampNeg (mev.toInt64))
def f_X6_addPoint_m_then (m_points : Nat → Int32) (m_at m_then : Nat → Int64) (lp mev np ni nd : Int32) : Nat → Int64 := if (f_X6_can_j1_1 (f_X6_addPoint_j2_1 m_points m_at lp mev np ni nd)) = (0 : Int32) then m_then else (vp_updL (vp_updL (vp_updL m_then ((3 : Int32) * (((5 : Int32) * lp) + (m_points lp.toNatClampNeg))).toNatClampNeg (np.toInt64)) (((3 : Int32) * (((5 : Int32) * lp) + (m_points lp.toNatClampNeg))) + (1 : Int32)).toNatClampNeg (ni.toInt64)) (((3 : Int32) * (((5 : Int32) * lp) + (m_points lp.toNatClampNeg))) + (2 : Int32)).toNatClampNeg (nd.toInt64))
def f_X6_addPoint_r (m_points : Nat → Int32) (m_at : Nat → Int64) (lp mev np ni nd : Int32) : Int32 := if (f_X6_can_j1_1 (f_X6_addPoint_j2_1 m_points m_at lp mev np ni nd)) = (0 : Int32) then (0 : Int32) else ((upd m_points lp.toNatClampNeg ((m_points lp.toNatClampNeg) + (1 : Int32))) lp.toNatClampNeg)
theorem ne5_addPoint {m_points : Nat → Int32} {m_at : Nat → Int64} {lp mev np ni nd : Int32} (h : ¬ f_X6_can_j1_1 (f_X6_addPoint_j2_1 m_points m_at lp mev np ni nd) = (0 : Int32)) : ¬ (m_points lp.toNatClampNeg) = (5 : Int32) := by
  intro q
  refine h ?_
  unfold f_X6_addPoint_j2_1
  rw [q]
  repeat' split
  all_goals first | rfl | (exfalso; rename_i h9; exact absurd rfl h9) | (simp_all; done)
set_option maxHeartbeats 4000000 in
set_option maxRecDepth 100000 in
theorem c_X6_addPoint (l : Launch) (dC : Nat → ClassId) (dI : Nat → Nat → Nat) (cI cJ cZ cO : ClassId) (adM : Nat) (ms_samples : Int32) (q_a1 q_a2 q_b q_deadTime q_load q_measure q_before q_past q_gain q_low q_high q_setpoint q_integral q_guard q_share q_mode q_hand q_follows q_hasMaster q_isStarved q_held q_sum q_lastError q_lastRate q_goesOn q_points q_at q_then q_experiment q_center q_height q_band q_isUp q_gone q_risings q_second q_greatest q_least q_period q_swing : Nat) (ms_thrown : Int32) (m_points : Nat → Int32) (m_at m_then : Nat → Int64) (lp mev np ni nd : Int32) (sz : Nat) (hpt : ∀ k : Nat, k < 3 → ∃ j : Nat, j ≤ 5 ∧ m_points k = nI j) : Met l yX6_addPoint (Cond.code yX6_addPoint cX6_addPoint 8 (some .int) :: wAll) ({ frames := 2, cells := 0, slots := 0, locals := 44 }) (va_Pc [.ref adM, .int lp, .int mev, .int np, .int ni, .int nd] (gP (dC, dI) [zX6 adM ms_samples q_a1 q_a2 q_b q_deadTime q_load q_measure q_before q_past q_gain q_low q_high q_setpoint q_integral q_guard q_share q_mode q_hand q_follows q_hasMaster q_isStarved q_held q_sum q_lastError q_lastRate q_goesOn q_points q_at q_then q_experiment q_center q_height q_band q_isUp q_gone q_risings q_second q_greatest q_least q_period q_swing ms_thrown, zAI cI q_points 3 m_points, zAJ cJ q_at 15 m_at, zAJ cJ q_then 45 m_then] (tyG cI cJ cZ cO) sz gU)) (va_Qi (fun r (_ : Unit) => r = (f_X6_addPoint_r m_points m_at lp mev np ni nd)) (fun _ t => gB (dC, dI) (va_A [zX6 adM ms_samples q_a1 q_a2 q_b q_deadTime q_load q_measure q_before q_past q_gain q_low q_high q_setpoint q_integral q_guard q_share q_mode q_hand q_follows q_hasMaster q_isStarved q_held q_sum q_lastError q_lastRate q_goesOn q_points q_at q_then q_experiment q_center q_height q_band q_isUp q_gone q_risings q_second q_greatest q_least q_period q_swing ms_thrown, zAI cI q_points 3 m_points, zAJ cJ q_at 15 m_at, zAJ cJ q_then 45 m_then] sz) [zX6 adM ms_samples q_a1 q_a2 q_b q_deadTime q_load q_measure q_before q_past q_gain q_low q_high q_setpoint q_integral q_guard q_share q_mode q_hand q_follows q_hasMaster q_isStarved q_held q_sum q_lastError q_lastRate q_goesOn q_points q_at q_then q_experiment q_center q_height q_band q_isUp q_gone q_risings q_second q_greatest q_least q_period q_swing (f_X6_addPoint_j2_1 m_points m_at lp mev np ni nd), zAI cI q_points 3 (f_X6_addPoint_m_points m_points m_at lp mev np ni nd), zAJ cJ q_at 15 (f_X6_addPoint_m_at m_points m_at lp mev np ni nd), zAJ cJ q_then 45 (f_X6_addPoint_m_then m_points m_at m_then lp mev np ni nd)] (tyG cI cJ cZ cO) t) (va_A [zX6 adM ms_samples q_a1 q_a2 q_b q_deadTime q_load q_measure q_before q_past q_gain q_low q_high q_setpoint q_integral q_guard q_share q_mode q_hand q_follows q_hasMaster q_isStarved q_held q_sum q_lastError q_lastRate q_goesOn q_points q_at q_then q_experiment q_center q_height q_band q_isUp q_gone q_risings q_second q_greatest q_least q_period q_swing ms_thrown, zAI cI q_points 3 m_points, zAJ cJ q_at 15 m_at, zAJ cJ q_then 45 m_then] sz)) 0 0 (va_A [zX6 adM ms_samples q_a1 q_a2 q_b q_deadTime q_load q_measure q_before q_past q_gain q_low q_high q_setpoint q_integral q_guard q_share q_mode q_hand q_follows q_hasMaster q_isStarved q_held q_sum q_lastError q_lastRate q_goesOn q_points q_at q_then q_experiment q_center q_height q_band q_isUp q_gone q_risings q_second q_greatest q_least q_period q_swing ms_thrown, zAI cI q_points 3 m_points, zAJ cJ q_at 15 m_at, zAJ cJ q_then 45 m_then] sz) := by
  refine Met.ofW (cc := cX6_addPoint) (maxL := 8) (ret := (some .int)) (by decide) rfl ?_
  intro p e s m args below meth c s₁ B hml hv
  obtain ⟨rfl, hsz, hP, hK, hD0, hG⟩ := hv
  have hx := B.exec
  have hb := B.bytes
  have hr := B.returns
  have hts := ht_of B.pre
  have hown : s.vm.findClass RX6 = some m.cls := findClass_of_methodNamed B.named
  have hlocks := B.notSynchronized
  subst hsz
  have hD := hD0.self (sz := s.heap.size)
  generalize hAe : va_A [zX6 adM ms_samples q_a1 q_a2 q_b q_deadTime q_load q_measure q_before q_past q_gain q_low q_high q_setpoint q_integral q_guard q_share q_mode q_hand q_follows q_hasMaster q_isStarved q_held q_sum q_lastError q_lastRate q_goesOn q_points q_at q_then q_experiment q_center q_height q_band q_isUp q_gone q_risings q_second q_greatest q_least q_period q_swing ms_thrown, zAI cI q_points 3 m_points, zAJ cJ q_at 15 m_at, zAJ cJ q_then 45 m_then] s.heap.size = A at hD ⊢
  have hA : ∀ q : Nat, s.heap.size ≤ q → A q := fun q h => by rw [← hAe]; exact Or.inr h
  have hS : va_S A s.heap s.heap [] := va_S.rf
  have hP : va_P (dC, dI) vwCl [zX6 adM ms_samples q_a1 q_a2 q_b q_deadTime q_load q_measure q_before q_past q_gain q_low q_high q_setpoint q_integral q_guard q_share q_mode q_hand q_follows q_hasMaster q_isStarved q_held q_sum q_lastError q_lastRate q_goesOn q_points q_at q_then q_experiment q_center q_height q_band q_isUp q_gone q_risings q_second q_greatest q_least q_period q_swing ms_thrown, zAI cI q_points 3 m_points, zAJ cJ q_at 15 m_at, zAJ cJ q_then 45 m_then] s.heap := hP
  have hl := lv_entry ([.ref adM, .int lp, .int mev, .int np, .int ni, .int nd]) (n := 8) (Nat.le_of_ble_eq_true rfl)
  rw [lg_entry_eq]
  generalize (lg_sl ([.ref adM, .int lp, .int mev, .int np, .int ni, .int nd]) ++ List.replicate (8 - (lg_sl ([.ref adM, .int lp, .int mev, .int np, .int ni, .int nd])).length) Slot.unset).toArray = ls at hl ⊢
  have hl : lv_has ls 8 [(0, .ref adM), (1, .int lp), (2, .int mev), (3, .int np), (4, .int ni), (5, .int nd)] := hl
  refine hh_name (fun Q hQ => ?_)
  refine lv_iload_n hx hb dX6_addPoint_0 rfl (lv_at hl 1 rfl) ?_
  refine hh_calli (w2 := [zX6 adM ms_samples q_a1 q_a2 q_b q_deadTime q_load q_measure q_before q_past q_gain q_low q_high q_setpoint q_integral q_guard q_share q_mode q_hand q_follows q_hasMaster q_isStarved q_held q_sum q_lastError q_lastRate q_goesOn q_points q_at q_then q_experiment q_center q_height q_band q_isUp q_gone q_risings q_second q_greatest q_least q_period q_swing ms_thrown, zAI cI q_points 3 m_points, zAJ cJ q_at 15 m_at, zAJ cJ q_then 45 m_then]) (va_runS (As := [.int lp]) (rest := []) ⟨hx, hb, hml, hown, hts⟩ (c_X6_isLoop l dC dI cI cJ cZ cO lp _) (va_cwS 1 hts (gd_S wd_4_195 wd_4_196 wd_1_7 wd_4_197) rfl rfl rfl (by decide +kernel) ⟨Nat.le_of_ble_eq_true rfl, Nat.le_of_ble_eq_true rfl⟩) (hh_pS gU_c (fun _ _ _ => trivial) hK hP hD [] rfl rfl) rfl rfl hl.1 rfl (lv_room (Nat.le_of_ble_eq_true rfl)) dX6_addPoint_1 ⟨Nat.le_of_ble_eq_true rfl, Nat.le_of_ble_eq_true rfl⟩) hP hD hS hA [] [0, 1, 2, 3] [0, 1, 2, 3] rfl rfl rfl (by decide) rfl rfl (fun H locs hP hD hS => ?_)
  have J1 : ∀ (H : Heap) (locs : List Loc) (ls : Array Slot), va_P (dC, dI) vwCl [zX6 adM ms_samples q_a1 q_a2 q_b q_deadTime q_load q_measure q_before q_past q_gain q_low q_high q_setpoint q_integral q_guard q_share q_mode q_hand q_follows q_hasMaster q_isStarved q_held q_sum q_lastError q_lastRate q_goesOn q_points q_at q_then q_experiment q_center q_height q_band q_isUp q_gone q_risings q_second q_greatest q_least q_period q_swing ms_thrown, zAI cI q_points 3 m_points, zAJ cJ q_at 15 m_at, zAJ cJ q_then 45 m_then] H → va_D A [zX6 adM ms_samples q_a1 q_a2 q_b q_deadTime q_load q_measure q_before q_past q_gain q_low q_high q_setpoint q_integral q_guard q_share q_mode q_hand q_follows q_hasMaster q_isStarved q_held q_sum q_lastError q_lastRate q_goesOn q_points q_at q_then q_experiment q_center q_height q_band q_isUp q_gone q_risings q_second q_greatest q_least q_period q_swing ms_thrown, zAI cI q_points 3 m_points, zAJ cJ q_at 15 m_at, zAJ cJ q_then 45 m_then] → va_S A s.heap H locs → lv_has ls 8 [(0, .ref adM), (1, .int lp), (2, .int mev), (3, .int np), (4, .int ni), (5, .int nd)] → W p l e (headSpec (Cond.code yX6_addPoint cX6_addPoint 8 (some .int) :: wAll) ({ frames := 2, cells := 0, slots := 0, locals := 44 })).room s m ([.ref adM, .int lp, .int mev, .int np, .int ni, .int nd] : List Value).toArray below meth c H locs 0 0 Q (F0 m 66 ls [.int (f_X6_addPoint_j1_1 m_points m_at lp mev np ni nd)]) := by
    intro H locs ls hP hD hS hl
    refine lv_istore (lv' := [(6, .int (f_X6_addPoint_j1_1 m_points m_at lp mev np ni nd)), (0, .ref adM), (1, .int lp), (2, .int mev), (3, .int np), (4, .int ni), (5, .int nd)]) hx hb dX6_addPoint_66 hl (by decide) rfl (fun ls hl => ?_)
    refine lv_aload_n hx hb dX6_addPoint_68 rfl (lv_at hl 1 rfl) ?_
    refine lv_iload_n hx hb dX6_addPoint_69 rfl (lv_at hl 2 rfl) ?_
    refine hh_calli (w2 := [zX6 adM ms_samples q_a1 q_a2 q_b q_deadTime q_load q_measure q_before q_past q_gain q_low q_high q_setpoint q_integral q_guard q_share q_mode q_hand q_follows q_hasMaster q_isStarved q_held q_sum q_lastError q_lastRate q_goesOn q_points q_at q_then q_experiment q_center q_height q_band q_isUp q_gone q_risings q_second q_greatest q_least q_period q_swing ms_thrown, zAI cI q_points 3 m_points, zAJ cJ q_at 15 m_at, zAJ cJ q_then 45 m_then]) (va_runS (As := [.int lp]) (rest := [.ref adM]) ⟨hx, hb, hml, hown, hts⟩ (c_X6_isLoop l dC dI cI cJ cZ cO lp _) (va_cwS 1 hts (gd_S wd_4_195 wd_4_196 wd_1_7 wd_4_197) rfl rfl rfl (by decide +kernel) ⟨Nat.le_of_ble_eq_true rfl, Nat.le_of_ble_eq_true rfl⟩) (hh_pS gU_c (fun _ _ _ => trivial) hK hP hD [] rfl rfl) rfl rfl hl.1 rfl (lv_room (Nat.le_of_ble_eq_true rfl)) dX6_addPoint_70 ⟨Nat.le_of_ble_eq_true rfl, Nat.le_of_ble_eq_true rfl⟩) hP hD hS hA [] [0, 1, 2, 3] [0, 1, 2, 3] rfl rfl rfl (by decide) rfl rfl (fun H locs hP hD hS => ?_)
    have J2 : ∀ (H : Heap) (locs : List Loc) (ls : Array Slot), va_P (dC, dI) vwCl [zX6 adM ms_samples q_a1 q_a2 q_b q_deadTime q_load q_measure q_before q_past q_gain q_low q_high q_setpoint q_integral q_guard q_share q_mode q_hand q_follows q_hasMaster q_isStarved q_held q_sum q_lastError q_lastRate q_goesOn q_points q_at q_then q_experiment q_center q_height q_band q_isUp q_gone q_risings q_second q_greatest q_least q_period q_swing ms_thrown, zAI cI q_points 3 m_points, zAJ cJ q_at 15 m_at, zAJ cJ q_then 45 m_then] H → va_D A [zX6 adM ms_samples q_a1 q_a2 q_b q_deadTime q_load q_measure q_before q_past q_gain q_low q_high q_setpoint q_integral q_guard q_share q_mode q_hand q_follows q_hasMaster q_isStarved q_held q_sum q_lastError q_lastRate q_goesOn q_points q_at q_then q_experiment q_center q_height q_band q_isUp q_gone q_risings q_second q_greatest q_least q_period q_swing ms_thrown, zAI cI q_points 3 m_points, zAJ cJ q_at 15 m_at, zAJ cJ q_then 45 m_then] → va_S A s.heap H locs → lv_has ls 8 [(6, .int (f_X6_addPoint_j1_1 m_points m_at lp mev np ni nd)), (0, .ref adM), (1, .int lp), (2, .int mev), (3, .int np), (4, .int ni), (5, .int nd)] → W p l e (headSpec (Cond.code yX6_addPoint cX6_addPoint 8 (some .int) :: wAll) ({ frames := 2, cells := 0, slots := 0, locals := 44 })).room s m ([.ref adM, .int lp, .int mev, .int np, .int ni, .int nd] : List Value).toArray below meth c H locs 0 0 Q (F0 m 104 ls [.int (f_X6_addPoint_j2_1 m_points m_at lp mev np ni nd), .ref adM]) := by
      intro H locs ls hP hD hS hl
      refine hh_calli (w2 := [zX6 adM ms_samples q_a1 q_a2 q_b q_deadTime q_load q_measure q_before q_past q_gain q_low q_high q_setpoint q_integral q_guard q_share q_mode q_hand q_follows q_hasMaster q_isStarved q_held q_sum q_lastError q_lastRate q_goesOn q_points q_at q_then q_experiment q_center q_height q_band q_isUp q_gone q_risings q_second q_greatest q_least q_period q_swing (f_X6_addPoint_j2_1 m_points m_at lp mev np ni nd), zAI cI q_points 3 m_points, zAJ cJ q_at 15 m_at, zAJ cJ q_then 45 m_then]) (va_runV (As := [.int (f_X6_addPoint_j2_1 m_points m_at lp mev np ni nd)]) (rest := []) ⟨hx, hb, hml, hown, hts⟩ (c_X6_can l dC dI cI cJ cZ cO adM ms_samples q_a1 q_a2 q_b q_deadTime q_load q_measure q_before q_past q_gain q_low q_high q_setpoint q_integral q_guard q_share q_mode q_hand q_follows q_hasMaster q_isStarved q_held q_sum q_lastError q_lastRate q_goesOn q_points q_at q_then q_experiment q_center q_height q_band q_isUp q_gone q_risings q_second q_greatest q_least q_period q_swing ms_thrown (f_X6_addPoint_j2_1 m_points m_at lp mev np ni nd) _) (cwV 1 hts (gd_V wd_4_198 wd_4_200 wd_p_10 wd_1_7 wd_4_201) rfl rfl rfl (by decide +kernel) ⟨Nat.le_of_ble_eq_true rfl, Nat.le_of_ble_eq_true rfl⟩) (hh_pV (ci := 6) (q := (RX6, TX6, 42)) (q0 := 0) rfl rfl gU_c (fun _ _ _ => trivial) hK hP hD [0] rfl rfl) rfl rfl hl.1 rfl (lv_room (Nat.le_of_ble_eq_true rfl)) dX6_addPoint_104 ⟨Nat.le_of_ble_eq_true rfl, Nat.le_of_ble_eq_true rfl⟩) hP hD hS hA [0] [1, 2, 3] [3, 0, 1, 2] rfl rfl rfl (by decide) rfl rfl (fun H locs hP hD hS => ?_)
      refine lv_if_ne (tgt := 112) hx hb dX6_addPoint_107 (by decide) (fun h9 => ?_) (fun h9 => ?_)
      · skip
        refine lv_iconst (v := 5) hx hb dX6_addPoint_112 (by decide) ?_
        refine lv_iload_n hx hb dX6_addPoint_113 rfl (lv_at hl 2 rfl) ?_
        refine lv_imul hx hb dX6_addPoint_114 ?_
        refine lv_aload_n hx hb dX6_addPoint_115 rfl (lv_at hl 1 rfl) ?_
        refine va_get (D := (dC, dI)) (ci := 6) (v := .ref q_points) (C := RX6) (T := TX6) (N := 42) hx hb hts inW_X6 hown hK hP 0 rfl rfl 26 (by decide) (hts _ wd_4_82) (fun _ h9 => h9) rfl dX6_addPoint_116 ?_
        refine lv_iload_n hx hb dX6_addPoint_119 rfl (lv_at hl 2 rfl) ?_
        refine va_iald hx hb hK hP 1 0 rfl rfl (i := lp) (ix_of (P := fun lp => vp_in lp 3) (by first | exact loop3 (by assumption) | exact g3_addPoint (by assumption)) (ix_d (by decide)) (ix_d (by decide)) (ix_d (by decide))) dX6_addPoint_120 ?_
        refine lv_iadd hx hb dX6_addPoint_121 ?_
        refine lv_istore (lv' := [(7, .int (((5 : Int32) * lp) + (m_points lp.toNatClampNeg))), (6, .int (f_X6_addPoint_j1_1 m_points m_at lp mev np ni nd)), (0, .ref adM), (1, .int lp), (2, .int mev), (3, .int np), (4, .int ni), (5, .int nd)]) hx hb dX6_addPoint_122 hl (by decide) rfl (fun ls hl => ?_)
        refine lv_aload_n hx hb dX6_addPoint_124 rfl (lv_at hl 2 rfl) ?_
        refine va_get (D := (dC, dI)) (ci := 6) (v := .ref q_at) (C := RX6) (T := TX6) (N := 42) hx hb hts inW_X6 hown hK hP 0 rfl rfl 27 (by decide) (hts _ wd_4_83) (fun _ h9 => h9) rfl dX6_addPoint_125 ?_
        refine lv_iload hx hb dX6_addPoint_128 (lv_at hl 0 rfl) ?_
        refine lv_iload_n hx hb dX6_addPoint_130 rfl (lv_at hl 4 rfl) ?_
        refine lv_i2l hx hb dX6_addPoint_131 rfl ?_
        refine va_last hx hb hK hP hD hS 2 1 rfl rfl (i := (((5 : Int32) * lp) + (m_points lp.toNatClampNeg))) (ix_d (ixA (P := fun lp x9 => 0 ≤ ((((5 : Int32) * lp) + x9)).toInt ∧ ((((5 : Int32) * lp) + x9)).toInt < 15) (g3_addPoint (by assumption)) (hpt _ (tn3 (g3_addPoint (by assumption)))) (ne5_addPoint (by assumption)) (by decide +kernel))) dX6_addPoint_132 (fun H locs hP hD hS => ?_)
        have hP : va_P (dC, dI) vwCl [zX6 adM ms_samples q_a1 q_a2 q_b q_deadTime q_load q_measure q_before q_past q_gain q_low q_high q_setpoint q_integral q_guard q_share q_mode q_hand q_follows q_hasMaster q_isStarved q_held q_sum q_lastError q_lastRate q_goesOn q_points q_at q_then q_experiment q_center q_height q_band q_isUp q_gone q_risings q_second q_greatest q_least q_period q_swing (f_X6_addPoint_j2_1 m_points m_at lp mev np ni nd), zAI cI q_points 3 m_points, zAJ cJ q_at 15 (vp_updL m_at (((5 : Int32) * lp) + (m_points lp.toNatClampNeg)).toNatClampNeg (mev.toInt64)), zAJ cJ q_then 45 m_then] H := hP
        have hD : va_D A [zX6 adM ms_samples q_a1 q_a2 q_b q_deadTime q_load q_measure q_before q_past q_gain q_low q_high q_setpoint q_integral q_guard q_share q_mode q_hand q_follows q_hasMaster q_isStarved q_held q_sum q_lastError q_lastRate q_goesOn q_points q_at q_then q_experiment q_center q_height q_band q_isUp q_gone q_risings q_second q_greatest q_least q_period q_swing (f_X6_addPoint_j2_1 m_points m_at lp mev np ni nd), zAI cI q_points 3 m_points, zAJ cJ q_at 15 (vp_updL m_at (((5 : Int32) * lp) + (m_points lp.toNatClampNeg)).toNatClampNeg (mev.toInt64)), zAJ cJ q_then 45 m_then] := hD
        refine lv_aload_n hx hb dX6_addPoint_133 rfl (lv_at hl 2 rfl) ?_
        refine va_get (D := (dC, dI)) (ci := 6) (v := .ref q_then) (C := RX6) (T := TX6) (N := 42) hx hb hts inW_X6 hown hK hP 0 rfl rfl 28 (by decide) (hts _ wd_4_84) (fun _ h9 => h9) rfl dX6_addPoint_134 ?_
        refine lv_iconst (v := 3) hx hb dX6_addPoint_137 (by decide) ?_
        refine lv_iload hx hb dX6_addPoint_138 (lv_at hl 0 rfl) ?_
        refine lv_imul hx hb dX6_addPoint_140 ?_
        refine lv_iload_n hx hb dX6_addPoint_141 rfl (lv_at hl 5 rfl) ?_
        refine lv_i2l hx hb dX6_addPoint_142 rfl ?_
        refine va_last hx hb hK hP hD hS 3 1 rfl rfl (i := ((3 : Int32) * (((5 : Int32) * lp) + (m_points lp.toNatClampNeg)))) (ix_d (ixA (P := fun lp x9 => 0 ≤ (((3 : Int32) * (((5 : Int32) * lp) + x9))).toInt ∧ (((3 : Int32) * (((5 : Int32) * lp) + x9))).toInt < 45) (g3_addPoint (by assumption)) (hpt _ (tn3 (g3_addPoint (by assumption)))) (ne5_addPoint (by assumption)) (by decide +kernel))) dX6_addPoint_143 (fun H locs hP hD hS => ?_)
        have hP : va_P (dC, dI) vwCl [zX6 adM ms_samples q_a1 q_a2 q_b q_deadTime q_load q_measure q_before q_past q_gain q_low q_high q_setpoint q_integral q_guard q_share q_mode q_hand q_follows q_hasMaster q_isStarved q_held q_sum q_lastError q_lastRate q_goesOn q_points q_at q_then q_experiment q_center q_height q_band q_isUp q_gone q_risings q_second q_greatest q_least q_period q_swing (f_X6_addPoint_j2_1 m_points m_at lp mev np ni nd), zAI cI q_points 3 m_points, zAJ cJ q_at 15 (vp_updL m_at (((5 : Int32) * lp) + (m_points lp.toNatClampNeg)).toNatClampNeg (mev.toInt64)), zAJ cJ q_then 45 (vp_updL m_then ((3 : Int32) * (((5 : Int32) * lp) + (m_points lp.toNatClampNeg))).toNatClampNeg (np.toInt64))] H := hP
        have hD : va_D A [zX6 adM ms_samples q_a1 q_a2 q_b q_deadTime q_load q_measure q_before q_past q_gain q_low q_high q_setpoint q_integral q_guard q_share q_mode q_hand q_follows q_hasMaster q_isStarved q_held q_sum q_lastError q_lastRate q_goesOn q_points q_at q_then q_experiment q_center q_height q_band q_isUp q_gone q_risings q_second q_greatest q_least q_period q_swing (f_X6_addPoint_j2_1 m_points m_at lp mev np ni nd), zAI cI q_points 3 m_points, zAJ cJ q_at 15 (vp_updL m_at (((5 : Int32) * lp) + (m_points lp.toNatClampNeg)).toNatClampNeg (mev.toInt64)), zAJ cJ q_then 45 (vp_updL m_then ((3 : Int32) * (((5 : Int32) * lp) + (m_points lp.toNatClampNeg))).toNatClampNeg (np.toInt64))] := hD
        refine lv_aload_n hx hb dX6_addPoint_144 rfl (lv_at hl 2 rfl) ?_
        refine va_get (D := (dC, dI)) (ci := 6) (v := .ref q_then) (C := RX6) (T := TX6) (N := 42) hx hb hts inW_X6 hown hK hP 0 rfl rfl 28 (by decide) (hts _ wd_4_84) (fun _ h9 => h9) rfl dX6_addPoint_145 ?_
        refine lv_iconst (v := 3) hx hb dX6_addPoint_148 (by decide) ?_
        refine lv_iload hx hb dX6_addPoint_149 (lv_at hl 0 rfl) ?_
        refine lv_imul hx hb dX6_addPoint_151 ?_
        refine lv_iconst (v := 1) hx hb dX6_addPoint_152 (by decide) ?_
        refine lv_iadd hx hb dX6_addPoint_153 ?_
        refine lv_iload hx hb dX6_addPoint_154 (lv_at hl 6 rfl) ?_
        refine lv_i2l hx hb dX6_addPoint_156 rfl ?_
        refine va_last hx hb hK hP hD hS 3 1 rfl rfl (i := (((3 : Int32) * (((5 : Int32) * lp) + (m_points lp.toNatClampNeg))) + (1 : Int32))) (ix_d (ixA (P := fun lp x9 => 0 ≤ ((((3 : Int32) * (((5 : Int32) * lp) + x9)) + (1 : Int32))).toInt ∧ ((((3 : Int32) * (((5 : Int32) * lp) + x9)) + (1 : Int32))).toInt < 45) (g3_addPoint (by assumption)) (hpt _ (tn3 (g3_addPoint (by assumption)))) (ne5_addPoint (by assumption)) (by decide +kernel))) dX6_addPoint_157 (fun H locs hP hD hS => ?_)
        have hP : va_P (dC, dI) vwCl [zX6 adM ms_samples q_a1 q_a2 q_b q_deadTime q_load q_measure q_before q_past q_gain q_low q_high q_setpoint q_integral q_guard q_share q_mode q_hand q_follows q_hasMaster q_isStarved q_held q_sum q_lastError q_lastRate q_goesOn q_points q_at q_then q_experiment q_center q_height q_band q_isUp q_gone q_risings q_second q_greatest q_least q_period q_swing (f_X6_addPoint_j2_1 m_points m_at lp mev np ni nd), zAI cI q_points 3 m_points, zAJ cJ q_at 15 (vp_updL m_at (((5 : Int32) * lp) + (m_points lp.toNatClampNeg)).toNatClampNeg (mev.toInt64)), zAJ cJ q_then 45 (vp_updL (vp_updL m_then ((3 : Int32) * (((5 : Int32) * lp) + (m_points lp.toNatClampNeg))).toNatClampNeg (np.toInt64)) (((3 : Int32) * (((5 : Int32) * lp) + (m_points lp.toNatClampNeg))) + (1 : Int32)).toNatClampNeg (ni.toInt64))] H := hP
        have hD : va_D A [zX6 adM ms_samples q_a1 q_a2 q_b q_deadTime q_load q_measure q_before q_past q_gain q_low q_high q_setpoint q_integral q_guard q_share q_mode q_hand q_follows q_hasMaster q_isStarved q_held q_sum q_lastError q_lastRate q_goesOn q_points q_at q_then q_experiment q_center q_height q_band q_isUp q_gone q_risings q_second q_greatest q_least q_period q_swing (f_X6_addPoint_j2_1 m_points m_at lp mev np ni nd), zAI cI q_points 3 m_points, zAJ cJ q_at 15 (vp_updL m_at (((5 : Int32) * lp) + (m_points lp.toNatClampNeg)).toNatClampNeg (mev.toInt64)), zAJ cJ q_then 45 (vp_updL (vp_updL m_then ((3 : Int32) * (((5 : Int32) * lp) + (m_points lp.toNatClampNeg))).toNatClampNeg (np.toInt64)) (((3 : Int32) * (((5 : Int32) * lp) + (m_points lp.toNatClampNeg))) + (1 : Int32)).toNatClampNeg (ni.toInt64))] := hD
        refine lv_aload_n hx hb dX6_addPoint_158 rfl (lv_at hl 2 rfl) ?_
        refine va_get (D := (dC, dI)) (ci := 6) (v := .ref q_then) (C := RX6) (T := TX6) (N := 42) hx hb hts inW_X6 hown hK hP 0 rfl rfl 28 (by decide) (hts _ wd_4_84) (fun _ h9 => h9) rfl dX6_addPoint_159 ?_
        refine lv_iconst (v := 3) hx hb dX6_addPoint_162 (by decide) ?_
        refine lv_iload hx hb dX6_addPoint_163 (lv_at hl 0 rfl) ?_
        refine lv_imul hx hb dX6_addPoint_165 ?_
        refine lv_iconst (v := 2) hx hb dX6_addPoint_166 (by decide) ?_
        refine lv_iadd hx hb dX6_addPoint_167 ?_
        refine lv_iload hx hb dX6_addPoint_168 (lv_at hl 7 rfl) ?_
        refine lv_i2l hx hb dX6_addPoint_170 rfl ?_
        refine va_last hx hb hK hP hD hS 3 1 rfl rfl (i := (((3 : Int32) * (((5 : Int32) * lp) + (m_points lp.toNatClampNeg))) + (2 : Int32))) (ix_d (ixA (P := fun lp x9 => 0 ≤ ((((3 : Int32) * (((5 : Int32) * lp) + x9)) + (2 : Int32))).toInt ∧ ((((3 : Int32) * (((5 : Int32) * lp) + x9)) + (2 : Int32))).toInt < 45) (g3_addPoint (by assumption)) (hpt _ (tn3 (g3_addPoint (by assumption)))) (ne5_addPoint (by assumption)) (by decide +kernel))) dX6_addPoint_171 (fun H locs hP hD hS => ?_)
        have hP : va_P (dC, dI) vwCl [zX6 adM ms_samples q_a1 q_a2 q_b q_deadTime q_load q_measure q_before q_past q_gain q_low q_high q_setpoint q_integral q_guard q_share q_mode q_hand q_follows q_hasMaster q_isStarved q_held q_sum q_lastError q_lastRate q_goesOn q_points q_at q_then q_experiment q_center q_height q_band q_isUp q_gone q_risings q_second q_greatest q_least q_period q_swing (f_X6_addPoint_j2_1 m_points m_at lp mev np ni nd), zAI cI q_points 3 m_points, zAJ cJ q_at 15 (vp_updL m_at (((5 : Int32) * lp) + (m_points lp.toNatClampNeg)).toNatClampNeg (mev.toInt64)), zAJ cJ q_then 45 (vp_updL (vp_updL (vp_updL m_then ((3 : Int32) * (((5 : Int32) * lp) + (m_points lp.toNatClampNeg))).toNatClampNeg (np.toInt64)) (((3 : Int32) * (((5 : Int32) * lp) + (m_points lp.toNatClampNeg))) + (1 : Int32)).toNatClampNeg (ni.toInt64)) (((3 : Int32) * (((5 : Int32) * lp) + (m_points lp.toNatClampNeg))) + (2 : Int32)).toNatClampNeg (nd.toInt64))] H := hP
        have hD : va_D A [zX6 adM ms_samples q_a1 q_a2 q_b q_deadTime q_load q_measure q_before q_past q_gain q_low q_high q_setpoint q_integral q_guard q_share q_mode q_hand q_follows q_hasMaster q_isStarved q_held q_sum q_lastError q_lastRate q_goesOn q_points q_at q_then q_experiment q_center q_height q_band q_isUp q_gone q_risings q_second q_greatest q_least q_period q_swing (f_X6_addPoint_j2_1 m_points m_at lp mev np ni nd), zAI cI q_points 3 m_points, zAJ cJ q_at 15 (vp_updL m_at (((5 : Int32) * lp) + (m_points lp.toNatClampNeg)).toNatClampNeg (mev.toInt64)), zAJ cJ q_then 45 (vp_updL (vp_updL (vp_updL m_then ((3 : Int32) * (((5 : Int32) * lp) + (m_points lp.toNatClampNeg))).toNatClampNeg (np.toInt64)) (((3 : Int32) * (((5 : Int32) * lp) + (m_points lp.toNatClampNeg))) + (1 : Int32)).toNatClampNeg (ni.toInt64)) (((3 : Int32) * (((5 : Int32) * lp) + (m_points lp.toNatClampNeg))) + (2 : Int32)).toNatClampNeg (nd.toInt64))] := hD
        refine lv_aload_n hx hb dX6_addPoint_172 rfl (lv_at hl 2 rfl) ?_
        refine va_get (D := (dC, dI)) (ci := 6) (v := .ref q_points) (C := RX6) (T := TX6) (N := 42) hx hb hts inW_X6 hown hK hP 0 rfl rfl 26 (by decide) (hts _ wd_4_82) (fun _ h9 => h9) rfl dX6_addPoint_173 ?_
        refine lv_iload_n hx hb dX6_addPoint_176 rfl (lv_at hl 3 rfl) ?_
        refine lv_dup2_11 hx hb dX6_addPoint_177 rfl rfl ?_
        refine va_iald hx hb hK hP 1 0 rfl rfl (i := lp) (ix_of (P := fun lp => vp_in lp 3) (by first | exact loop3 (by assumption) | exact g3_addPoint (by assumption)) (ix_d (by decide)) (ix_d (by decide)) (ix_d (by decide))) dX6_addPoint_178 ?_
        refine lv_iconst (v := 1) hx hb dX6_addPoint_179 (by decide) ?_
        refine lv_iadd hx hb dX6_addPoint_180 ?_
        refine va_iast hx hb hK hP hD hS 1 0 rfl rfl (i := lp) (ix_of (P := fun lp => vp_in lp 3) (by first | exact loop3 (by assumption) | exact g3_addPoint (by assumption)) (ix_d (by decide)) (ix_d (by decide)) (ix_d (by decide))) dX6_addPoint_181 (fun H locs hP hD hS => ?_)
        have hP : va_P (dC, dI) vwCl [zX6 adM ms_samples q_a1 q_a2 q_b q_deadTime q_load q_measure q_before q_past q_gain q_low q_high q_setpoint q_integral q_guard q_share q_mode q_hand q_follows q_hasMaster q_isStarved q_held q_sum q_lastError q_lastRate q_goesOn q_points q_at q_then q_experiment q_center q_height q_band q_isUp q_gone q_risings q_second q_greatest q_least q_period q_swing (f_X6_addPoint_j2_1 m_points m_at lp mev np ni nd), zAI cI q_points 3 (upd m_points lp.toNatClampNeg ((m_points lp.toNatClampNeg) + (1 : Int32))), zAJ cJ q_at 15 (vp_updL m_at (((5 : Int32) * lp) + (m_points lp.toNatClampNeg)).toNatClampNeg (mev.toInt64)), zAJ cJ q_then 45 (vp_updL (vp_updL (vp_updL m_then ((3 : Int32) * (((5 : Int32) * lp) + (m_points lp.toNatClampNeg))).toNatClampNeg (np.toInt64)) (((3 : Int32) * (((5 : Int32) * lp) + (m_points lp.toNatClampNeg))) + (1 : Int32)).toNatClampNeg (ni.toInt64)) (((3 : Int32) * (((5 : Int32) * lp) + (m_points lp.toNatClampNeg))) + (2 : Int32)).toNatClampNeg (nd.toInt64))] H := hP
        have hD : va_D A [zX6 adM ms_samples q_a1 q_a2 q_b q_deadTime q_load q_measure q_before q_past q_gain q_low q_high q_setpoint q_integral q_guard q_share q_mode q_hand q_follows q_hasMaster q_isStarved q_held q_sum q_lastError q_lastRate q_goesOn q_points q_at q_then q_experiment q_center q_height q_band q_isUp q_gone q_risings q_second q_greatest q_least q_period q_swing (f_X6_addPoint_j2_1 m_points m_at lp mev np ni nd), zAI cI q_points 3 (upd m_points lp.toNatClampNeg ((m_points lp.toNatClampNeg) + (1 : Int32))), zAJ cJ q_at 15 (vp_updL m_at (((5 : Int32) * lp) + (m_points lp.toNatClampNeg)).toNatClampNeg (mev.toInt64)), zAJ cJ q_then 45 (vp_updL (vp_updL (vp_updL m_then ((3 : Int32) * (((5 : Int32) * lp) + (m_points lp.toNatClampNeg))).toNatClampNeg (np.toInt64)) (((3 : Int32) * (((5 : Int32) * lp) + (m_points lp.toNatClampNeg))) + (1 : Int32)).toNatClampNeg (ni.toInt64)) (((3 : Int32) * (((5 : Int32) * lp) + (m_points lp.toNatClampNeg))) + (2 : Int32)).toNatClampNeg (nd.toInt64))] := hD
        refine lv_aload_n hx hb dX6_addPoint_182 rfl (lv_at hl 2 rfl) ?_
        refine va_get (D := (dC, dI)) (ci := 6) (v := .ref q_points) (C := RX6) (T := TX6) (N := 42) hx hb hts inW_X6 hown hK hP 0 rfl rfl 26 (by decide) (hts _ wd_4_82) (fun _ h9 => h9) rfl dX6_addPoint_183 ?_
        refine lv_iload_n hx hb dX6_addPoint_186 rfl (lv_at hl 3 rfl) ?_
        refine va_iald hx hb hK hP 1 0 rfl rfl (i := lp) (ix_of (P := fun lp => vp_in lp 3) (by first | exact loop3 (by assumption) | exact g3_addPoint (by assumption)) (ix_d (by decide)) (ix_d (by decide)) (ix_d (by decide))) dX6_addPoint_187 ?_
        exact hh_reti hQ ((if_neg h9).symm) hx hb hr hlocks (by rw [show (f_X6_addPoint_m_points m_points m_at lp mev np ni nd) = (upd m_points lp.toNatClampNeg ((m_points lp.toNatClampNeg) + (1 : Int32))) from if_neg h9, show (f_X6_addPoint_m_at m_points m_at lp mev np ni nd) = (vp_updL m_at (((5 : Int32) * lp) + (m_points lp.toNatClampNeg)).toNatClampNeg (mev.toInt64)) from if_neg h9, show (f_X6_addPoint_m_then m_points m_at m_then lp mev np ni nd) = (vp_updL (vp_updL (vp_updL m_then ((3 : Int32) * (((5 : Int32) * lp) + (m_points lp.toNatClampNeg))).toNatClampNeg (np.toInt64)) (((3 : Int32) * (((5 : Int32) * lp) + (m_points lp.toNatClampNeg))) + (1 : Int32)).toNatClampNeg (ni.toInt64)) (((3 : Int32) * (((5 : Int32) * lp) + (m_points lp.toNatClampNeg))) + (2 : Int32)).toNatClampNeg (nd.toInt64)) from if_neg h9]; exact hP) hK (by rw [show (f_X6_addPoint_m_points m_points m_at lp mev np ni nd) = (upd m_points lp.toNatClampNeg ((m_points lp.toNatClampNeg) + (1 : Int32))) from if_neg h9, show (f_X6_addPoint_m_at m_points m_at lp mev np ni nd) = (vp_updL m_at (((5 : Int32) * lp) + (m_points lp.toNatClampNeg)).toNatClampNeg (mev.toInt64)) from if_neg h9, show (f_X6_addPoint_m_then m_points m_at m_then lp mev np ni nd) = (vp_updL (vp_updL (vp_updL m_then ((3 : Int32) * (((5 : Int32) * lp) + (m_points lp.toNatClampNeg))).toNatClampNeg (np.toInt64)) (((3 : Int32) * (((5 : Int32) * lp) + (m_points lp.toNatClampNeg))) + (1 : Int32)).toNatClampNeg (ni.toInt64)) (((3 : Int32) * (((5 : Int32) * lp) + (m_points lp.toNatClampNeg))) + (2 : Int32)).toNatClampNeg (nd.toInt64)) from if_neg h9]; exact hD) hS dX6_addPoint_188
      · skip
        refine lv_iconst (v := 0) hx hb dX6_addPoint_110 (by decide) ?_
        exact hh_reti hQ ((if_pos h9).symm) hx hb hr hlocks (by rw [show (f_X6_addPoint_m_points m_points m_at lp mev np ni nd) = m_points from if_pos h9, show (f_X6_addPoint_m_at m_points m_at lp mev np ni nd) = m_at from if_pos h9, show (f_X6_addPoint_m_then m_points m_at m_then lp mev np ni nd) = m_then from if_pos h9]; exact hP) hK (by rw [show (f_X6_addPoint_m_points m_points m_at lp mev np ni nd) = m_points from if_pos h9, show (f_X6_addPoint_m_at m_points m_at lp mev np ni nd) = m_at from if_pos h9, show (f_X6_addPoint_m_then m_points m_at m_then lp mev np ni nd) = m_then from if_pos h9]; exact hD) hS dX6_addPoint_111
    refine lv_if_ne (tgt := 80) hx hb dX6_addPoint_73 (by decide) (fun h6 => ?_) (fun h6 => ?_)
    · skip
      refine lv_iload hx hb dX6_addPoint_80 (lv_at hl 0 rfl) ?_
      refine lv_if_ne (tgt := 89) hx hb dX6_addPoint_82 (by decide) (fun h7 => ?_) (fun h7 => ?_)
      · skip
        refine lv_aload_n hx hb dX6_addPoint_89 rfl (lv_at hl 1 rfl) ?_
        refine va_get (D := (dC, dI)) (ci := 6) (v := .ref q_points) (C := RX6) (T := TX6) (N := 42) hx hb hts inW_X6 hown hK hP 0 rfl rfl 26 (by decide) (hts _ wd_4_82) (fun _ h9 => h9) rfl dX6_addPoint_90 ?_
        refine lv_iload_n hx hb dX6_addPoint_93 rfl (lv_at hl 2 rfl) ?_
        refine va_iald hx hb hK hP 1 0 rfl rfl (i := lp) (ix_of (P := fun lp => vp_in lp 3) (by first | exact loop3 (by assumption) | exact g3_addPoint (by assumption)) (ix_d (by decide)) (ix_d (by decide)) (ix_d (by decide))) dX6_addPoint_94 ?_
        refine lv_iconst (v := 5) hx hb dX6_addPoint_95 (by decide) ?_
        refine lv_icmp_ne (tgt := 103) hx hb dX6_addPoint_96 (by decide) (fun h8 => ?_) (fun h8 => ?_)
        · skip
          refine lv_iconst (v := 0) hx hb dX6_addPoint_103 (by decide) ?_
          have e10 : (f_X6_addPoint_j2_1 m_points m_at lp mev np ni nd) = (0 : Int32) := (if_neg h6).trans ((if_neg h7).trans (if_neg h8))
          refine hh_seti (y := (f_X6_addPoint_j2_1 m_points m_at lp mev np ni nd)) ((if_neg h6).trans ((if_neg h7).trans (if_neg h8))) ?_
          exact J2 _ _ _ (hP) (hD) hS (lv_sub hl [0, 1, 2, 3, 4, 5, 6] rfl)
        · skip
          refine lv_iconst (v := 3) hx hb dX6_addPoint_99 (by decide) ?_
          refine lv_goto (tgt := 104) hx hb dX6_addPoint_100 (by decide) ?_
          have e11 : (f_X6_addPoint_j2_1 m_points m_at lp mev np ni nd) = (3 : Int32) := (if_neg h6).trans ((if_neg h7).trans (if_pos h8))
          refine hh_seti (y := (f_X6_addPoint_j2_1 m_points m_at lp mev np ni nd)) ((if_neg h6).trans ((if_neg h7).trans (if_pos h8))) ?_
          exact J2 _ _ _ (hP) (hD) hS (lv_sub hl [0, 1, 2, 3, 4, 5, 6] rfl)
      · skip
        refine lv_iconst (v := 2) hx hb dX6_addPoint_85 (by decide) ?_
        refine lv_goto (tgt := 104) hx hb dX6_addPoint_86 (by decide) ?_
        have e12 : (f_X6_addPoint_j2_1 m_points m_at lp mev np ni nd) = (2 : Int32) := (if_neg h6).trans (if_pos h7)
        refine hh_seti (y := (f_X6_addPoint_j2_1 m_points m_at lp mev np ni nd)) ((if_neg h6).trans (if_pos h7)) ?_
        exact J2 _ _ _ (hP) (hD) hS (lv_sub hl [0, 1, 2, 3, 4, 5, 6] rfl)
    · skip
      refine lv_iconst (v := 1) hx hb dX6_addPoint_76 (by decide) ?_
      refine lv_goto (tgt := 104) hx hb dX6_addPoint_77 (by decide) ?_
      have e13 : (f_X6_addPoint_j2_1 m_points m_at lp mev np ni nd) = (1 : Int32) := if_pos h6
      refine hh_seti (y := (f_X6_addPoint_j2_1 m_points m_at lp mev np ni nd)) (if_pos h6) ?_
      exact J2 _ _ _ (hP) (hD) hS (lv_sub hl [0, 1, 2, 3, 4, 5, 6] rfl)
  refine lv_if_eq (tgt := 65) hx hb dX6_addPoint_4 (by decide) (fun h1 => ?_) (fun h1 => ?_)
  · skip
    refine lv_iconst (v := 0) hx hb dX6_addPoint_65 (by decide) ?_
    have e14 : (f_X6_addPoint_j1_1 m_points m_at lp mev np ni nd) = (0 : Int32) := if_pos h1
    refine hh_seti (y := (f_X6_addPoint_j1_1 m_points m_at lp mev np ni nd)) (if_pos h1) ?_
    exact J1 _ _ _ (hP) (hD) hS (lv_sub hl [0, 1, 2, 3, 4, 5] rfl)
  · skip
    refine lv_iload_n hx hb dX6_addPoint_7 rfl (lv_at hl 3 rfl) ?_
    refine lv_iload hx hb dX6_addPoint_8 (lv_at hl 4 rfl) ?_
    refine lv_iload hx hb dX6_addPoint_10 (lv_at hl 5 rfl) ?_
    refine hh_calli (w2 := [zX6 adM ms_samples q_a1 q_a2 q_b q_deadTime q_load q_measure q_before q_past q_gain q_low q_high q_setpoint q_integral q_guard q_share q_mode q_hand q_follows q_hasMaster q_isStarved q_held q_sum q_lastError q_lastRate q_goesOn q_points q_at q_then q_experiment q_center q_height q_band q_isUp q_gone q_risings q_second q_greatest q_least q_period q_swing ms_thrown, zAI cI q_points 3 m_points, zAJ cJ q_at 15 m_at, zAJ cJ q_then 45 m_then]) (va_runS (As := [.int np, .int ni, .int nd]) (rest := []) ⟨hx, hb, hml, hown, hts⟩ (c_X6_areGains l dC dI cI cJ cZ cO np ni nd _) (va_cwS 3 hts (gd_S wd_4_210 wd_4_211 wd_1_7 wd_4_212) rfl rfl rfl (by decide +kernel) ⟨Nat.le_of_ble_eq_true rfl, Nat.le_of_ble_eq_true rfl⟩) (hh_pS gU_c (fun _ _ _ => trivial) hK hP hD [] rfl rfl) rfl rfl hl.1 rfl (lv_room (Nat.le_of_ble_eq_true rfl)) dX6_addPoint_12 ⟨Nat.le_of_ble_eq_true rfl, Nat.le_of_ble_eq_true rfl⟩) hP hD hS hA [] [0, 1, 2, 3] [0, 1, 2, 3] rfl rfl rfl (by decide) rfl rfl (fun H locs hP hD hS => ?_)
    refine lv_if_eq (tgt := 65) hx hb dX6_addPoint_15 (by decide) (fun h2 => ?_) (fun h2 => ?_)
    · skip
      refine lv_iconst (v := 0) hx hb dX6_addPoint_65 (by decide) ?_
      have e15 : (f_X6_addPoint_j1_1 m_points m_at lp mev np ni nd) = (0 : Int32) := (if_neg h1).trans (if_pos h2)
      refine hh_seti (y := (f_X6_addPoint_j1_1 m_points m_at lp mev np ni nd)) ((if_neg h1).trans (if_pos h2)) ?_
      exact J1 _ _ _ (hP) (hD) hS (lv_sub hl [0, 1, 2, 3, 4, 5] rfl)
    · skip
      refine lv_iload_n hx hb dX6_addPoint_18 rfl (lv_at hl 2 rfl) ?_
      refine lv_ldc (v := -1000000) hx hb hown (hts _ wd_4_231) dX6_addPoint_19 ?_
      refine lv_ldc (v := 1000000) hx hb hown (hts _ wd_4_232) dX6_addPoint_21 ?_
      refine hh_calli (w2 := [zX6 adM ms_samples q_a1 q_a2 q_b q_deadTime q_load q_measure q_before q_past q_gain q_low q_high q_setpoint q_integral q_guard q_share q_mode q_hand q_follows q_hasMaster q_isStarved q_held q_sum q_lastError q_lastRate q_goesOn q_points q_at q_then q_experiment q_center q_height q_band q_isUp q_gone q_risings q_second q_greatest q_least q_period q_swing ms_thrown, zAI cI q_points 3 m_points, zAJ cJ q_at 15 m_at, zAJ cJ q_then 45 m_then]) (va_runS (As := [.int mev, .int (-1000000 : Int32), .int (1000000 : Int32)]) (rest := []) ⟨hx, hb, hml, hown, hts⟩ (c_X6_isIn l dC dI cI cJ cZ cO mev (-1000000 : Int32) (1000000 : Int32) _) (va_cwS 3 hts (gd_S wd_4_192 wd_4_193 wd_1_7 wd_4_194) rfl rfl rfl (by decide +kernel) ⟨Nat.le_of_ble_eq_true rfl, Nat.le_of_ble_eq_true rfl⟩) (hh_pS gU_c (fun _ _ _ => trivial) hK hP hD [] rfl rfl) rfl rfl hl.1 rfl (lv_room (Nat.le_of_ble_eq_true rfl)) dX6_addPoint_23 ⟨Nat.le_of_ble_eq_true rfl, Nat.le_of_ble_eq_true rfl⟩) hP hD hS hA [] [0, 1, 2, 3] [0, 1, 2, 3] rfl rfl rfl (by decide) rfl rfl (fun H locs hP hD hS => ?_)
      refine lv_if_eq (tgt := 65) hx hb dX6_addPoint_26 (by decide) (fun h3 => ?_) (fun h3 => ?_)
      · skip
        refine lv_iconst (v := 0) hx hb dX6_addPoint_65 (by decide) ?_
        have e16 : (f_X6_addPoint_j1_1 m_points m_at lp mev np ni nd) = (0 : Int32) := (if_neg h1).trans ((if_neg h2).trans (if_pos h3))
        refine hh_seti (y := (f_X6_addPoint_j1_1 m_points m_at lp mev np ni nd)) ((if_neg h1).trans ((if_neg h2).trans (if_pos h3))) ?_
        exact J1 _ _ _ (hP) (hD) hS (lv_sub hl [0, 1, 2, 3, 4, 5] rfl)
      · skip
        refine lv_aload_n hx hb dX6_addPoint_29 rfl (lv_at hl 0 rfl) ?_
        refine va_get (D := (dC, dI)) (ci := 6) (v := .ref q_points) (C := RX6) (T := TX6) (N := 42) hx hb hts inW_X6 hown hK hP 0 rfl rfl 26 (by decide) (hts _ wd_4_82) (fun _ h9 => h9) rfl dX6_addPoint_30 ?_
        refine lv_iload_n hx hb dX6_addPoint_33 rfl (lv_at hl 1 rfl) ?_
        refine va_iald hx hb hK hP 1 0 rfl rfl (i := lp) (ix_of (P := fun lp => vp_in lp 3) (by first | exact loop3 (by assumption) | exact g3_addPoint (by assumption)) (ix_d (by decide)) (ix_d (by decide)) (ix_d (by decide))) dX6_addPoint_34 ?_
        refine lv_if_eq (tgt := 61) hx hb dX6_addPoint_35 (by decide) (fun h4 => ?_) (fun h4 => ?_)
        · skip
          refine lv_iconst (v := 1) hx hb dX6_addPoint_61 (by decide) ?_
          refine lv_goto (tgt := 66) hx hb dX6_addPoint_62 (by decide) ?_
          have e17 : (f_X6_addPoint_j1_1 m_points m_at lp mev np ni nd) = (1 : Int32) := (if_neg h1).trans ((if_neg h2).trans ((if_neg h3).trans (if_pos h4)))
          refine hh_seti (y := (f_X6_addPoint_j1_1 m_points m_at lp mev np ni nd)) ((if_neg h1).trans ((if_neg h2).trans ((if_neg h3).trans (if_pos h4)))) ?_
          exact J1 _ _ _ (hP) (hD) hS (lv_sub hl [0, 1, 2, 3, 4, 5] rfl)
        · skip
          refine lv_iload_n hx hb dX6_addPoint_38 rfl (lv_at hl 2 rfl) ?_
          refine lv_i2l hx hb dX6_addPoint_39 rfl ?_
          refine lv_aload_n hx hb dX6_addPoint_40 rfl (lv_at hl 0 rfl) ?_
          refine va_get (D := (dC, dI)) (ci := 6) (v := .ref q_at) (C := RX6) (T := TX6) (N := 42) hx hb hts inW_X6 hown hK hP 0 rfl rfl 27 (by decide) (hts _ wd_4_83) (fun _ h9 => h9) rfl dX6_addPoint_41 ?_
          refine lv_iconst (v := 5) hx hb dX6_addPoint_44 (by decide) ?_
          refine lv_iload_n hx hb dX6_addPoint_45 rfl (lv_at hl 1 rfl) ?_
          refine lv_imul hx hb dX6_addPoint_46 ?_
          refine lv_aload_n hx hb dX6_addPoint_47 rfl (lv_at hl 0 rfl) ?_
          refine va_get (D := (dC, dI)) (ci := 6) (v := .ref q_points) (C := RX6) (T := TX6) (N := 42) hx hb hts inW_X6 hown hK hP 0 rfl rfl 26 (by decide) (hts _ wd_4_82) (fun _ h9 => h9) rfl dX6_addPoint_48 ?_
          refine lv_iload_n hx hb dX6_addPoint_51 rfl (lv_at hl 1 rfl) ?_
          refine va_iald hx hb hK hP 1 0 rfl rfl (i := lp) (ix_of (P := fun lp => vp_in lp 3) (by first | exact loop3 (by assumption) | exact g3_addPoint (by assumption)) (ix_d (by decide)) (ix_d (by decide)) (ix_d (by decide))) dX6_addPoint_52 ?_
          refine lv_iadd hx hb dX6_addPoint_53 ?_
          refine lv_iconst (v := 1) hx hb dX6_addPoint_54 (by decide) ?_
          refine lv_isub hx hb dX6_addPoint_55 ?_
          refine va_lald hx hb hK hP 2 1 rfl rfl (i := ((((5 : Int32) * lp) + (m_points lp.toNatClampNeg)) - (1 : Int32))) (ix_d (ixB (P := fun lp x9 => 0 ≤ (((((5 : Int32) * lp) + x9) - (1 : Int32))).toInt ∧ (((((5 : Int32) * lp) + x9) - (1 : Int32))).toInt < 15) (loop3 (by assumption)) (hpt _ (tn3 (loop3 (by assumption)))) (by assumption) (by decide +kernel))) dX6_addPoint_56 ?_
          refine hh_cle (tgt := 65) hx hb dX6_addPoint_57 dX6_addPoint_58 (by decide) (fun h5 => ?_) (fun h5 => ?_)
          · skip
            refine lv_iconst (v := 0) hx hb dX6_addPoint_65 (by decide) ?_
            have e18 : (f_X6_addPoint_j1_1 m_points m_at lp mev np ni nd) = (0 : Int32) := (if_neg h1).trans ((if_neg h2).trans ((if_neg h3).trans ((if_neg h4).trans (if_pos h5))))
            refine hh_seti (y := (f_X6_addPoint_j1_1 m_points m_at lp mev np ni nd)) ((if_neg h1).trans ((if_neg h2).trans ((if_neg h3).trans ((if_neg h4).trans (if_pos h5))))) ?_
            exact J1 _ _ _ (hP) (hD) hS (lv_sub hl [0, 1, 2, 3, 4, 5] rfl)
          · skip
            refine lv_iconst (v := 1) hx hb dX6_addPoint_61 (by decide) ?_
            refine lv_goto (tgt := 66) hx hb dX6_addPoint_62 (by decide) ?_
            have e19 : (f_X6_addPoint_j1_1 m_points m_at lp mev np ni nd) = (1 : Int32) := (if_neg h1).trans ((if_neg h2).trans ((if_neg h3).trans ((if_neg h4).trans (if_neg h5))))
            refine hh_seti (y := (f_X6_addPoint_j1_1 m_points m_at lp mev np ni nd)) ((if_neg h1).trans ((if_neg h2).trans ((if_neg h3).trans ((if_neg h4).trans (if_neg h5))))) ?_
            exact J1 _ _ _ (hP) (hD) hS (lv_sub hl [0, 1, 2, 3, 4, 5] rfl)
