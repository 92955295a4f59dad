/-- what an experiment that is done tells, as the law asks it -/
def Told (s : LT) (he : Int32) : Prop := yl_rpr s = 2 ∧ (0 ≤ (yl_rsw s).toInt ∧ (yl_rsw s).toInt ≤ 2000000) ∧ (2 ≤ (yl_rpe s).toInt ∧ (yl_rpe s).toInt ≤ 200) ∧ yl_rhe s = he ∧ (1 ≤ he.toInt ∧ he.toInt ≤ 5000)
theorem td_sw {s : LT} {he : Int32} (h : Told s he) : ¬ f_X5_swing_j1_1 (yl_rpr s) = (0 : Int32) := by
  unfold f_X5_swing_j1_1; rw [if_pos h.1]; decide
theorem td_pd {s : LT} {he : Int32} (h : Told s he) : ¬ f_X5_period_j1_1 (yl_rpr s) = (0 : Int32) := by
  unfold f_X5_period_j1_1; rw [if_pos h.1]; decide
theorem td_le {s : LT} {he : Int32} (h : Told s he) : yl_rsw s ≤ (2000000 : Int64) := by
  rw [fa_le64]; exact h.2.1.2
theorem td_nn {s : LT} {he : Int32} (h : Told s he) : ¬ yl_rsw s < (0 : Int64) := by
  rw [fa_lt64]; have := h.2.1.1; have z : (0 : Int64).toInt = 0 := rfl; omega
theorem td_pos {s : LT} {he : Int32} (h : Told s he) (h0 : ¬ yl_rsw s = (0 : Int64)) : 0 < (yl_rsw s).toInt := by
  have := h.2.1.1
  have z : (0 : Int64).toInt = 0 := rfl
  rw [fa_eq64, z] at h0
  omega
theorem td_n0 {s : LT} {he : Int32} (h : Told s he) (h0 : ¬ yl_rsw s = (0 : Int64)) : ¬ yl_rsw s ≤ (0 : Int64) := by
  have := td_pos h h0
  have z : (0 : Int64).toInt = 0 := rfl
  rw [fa_le64, z]; omega
theorem td_pe {s : LT} {he : Int32} (h : Told s he) : ¬ yl_rpe s < (2 : Int32) ∧ yl_rpe s ≤ (200 : Int32) := by
  obtain ⟨-, -, ⟨a, b⟩, -⟩ := h
  rw [fa_lt, fa_le]
  have z : (2 : Int32).toInt = 2 := rfl
  have z2 : (200 : Int32).toInt = 200 := rfl
  omega
theorem td_ug {s : LT} {he : Int32} (h : Told s he) (h0 : ¬ yl_rsw s = (0 : Int64)) : ¬ f_X5_ultimateGain_j1_1 (yl_rpr s) (yl_rsw s) = (0 : Int32) := by
  unfold f_X5_ultimateGain_j1_1; rw [if_pos h.1, if_neg (td_n0 h h0)]; decide
theorem td_pr {s : LT} {he : Int32} (h : Told s he) (h0 : ¬ yl_rsw s = (0 : Int64)) : ¬ f_X5_proposed_j1_1 (yl_rpr s) (yl_rpe s) (yl_rsw s) = (0 : Int32) := by
  have hp : ¬ yl_rpe s ≤ (0 : Int32) := by
    have := h.2.2.1.1
    have z : (0 : Int32).toInt = 0 := rfl
    rw [fa_le, z]; omega
  unfold f_X5_proposed_j1_1; rw [if_pos h.1, if_neg (td_n0 h h0), if_neg hp]; decide
theorem td_z {s : LT} {he : Int32} (h : Told s he) (h0 : ¬ yl_rsw s = (0 : Int64)) : ¬ ((355 : Int64) * yl_rsw s) = 0 := nz_355 (td_n0 h h0) (td_le h)
theorem td_z2 {s : LT} {he : Int32} (h : Told s he) : ¬ ((484 : Int64) * (yl_rpe s).toInt64) = 0 := by
  refine nz_k ?_ (by decide) (by decide)
  have := h.2.2.1.1
  have z : (0 : Int32).toInt = 0 := rfl
  rw [fa_lt, z]; omega
/-- the gain at the edge, as a number -/
theorem td_e {s : LT} {he : Int32} (h : Told s he) (h0 : ¬ yl_rsw s = (0 : Int64)) : (f_X3_gainAtTheEdge_j1_1 (yl_rsw s) (yl_rhe s)).toInt = 904000 * he.toInt / (355 * (yl_rsw s).toInt) ∧ 0 ≤ 904000 * he.toInt / (355 * (yl_rsw s).toInt) ∧ 904000 * he.toInt / (355 * (yl_rsw s).toInt) ≤ 12732395 ∧ ((904000 : Int64) * he.toInt64).toInt = 904000 * he.toInt ∧ ((355 : Int64) * yl_rsw s).toInt = 355 * (yl_rsw s).toInt := by
  have hp := td_pos h h0
  obtain ⟨-, ⟨s1, s2⟩, -, hh, h1, h5⟩ := h
  have z9 : (904000 : Int64).toInt = 904000 := rfl
  have z3 : (355 : Int64).toInt = 355 := rfl
  have m1 : ((904000 : Int64) * he.toInt64).toInt = 904000 * he.toInt := by rw [fb_mulL (by rw [z9, Int32.toInt_toInt64]; omega) (by rw [z9, Int32.toInt_toInt64]; omega), z9, Int32.toInt_toInt64]
  have m2 : ((355 : Int64) * yl_rsw s).toInt = 355 * (yl_rsw s).toInt := by rw [fb_mulL (by rw [z3]; omega) (by rw [z3]; omega), z3]
  have q1 : 0 ≤ 904000 * he.toInt / (355 * (yl_rsw s).toInt) := Int.ediv_nonneg (by omega) (by omega)
  have q2 : 904000 * he.toInt / (355 * (yl_rsw s).toInt) ≤ 12732395 := Int.ediv_le_of_le_mul (by omega) (by omega)
  refine ⟨?_, q1, q2, m1, m2⟩
  have hn : ¬ yl_rsw s ≤ (0 : Int64) := by
    have z : (0 : Int64).toInt = 0 := rfl
    rw [fa_le64, z]; omega
  unfold f_X3_gainAtTheEdge_j1_1
  rw [if_neg hn, hh, fd_int (by rw [m2]; omega), m1, m2]
theorem to32 {x : Int64} (h1 : -2147483648 ≤ x.toInt) (h2 : x.toInt < 2147483648) : x.toInt32.toInt64 = x := by
  rw [fa_eq64, Int32.toInt_toInt64, Int64.toInt_toInt32]
  exact fb_bmod h1 h2
theorem td_u {s : LT} {he : Int32} (h : Told s he) (h0 : ¬ yl_rsw s = (0 : Int64)) : (lr_ultimateGain s).toInt64 = f_X3_gainAtTheEdge_j1_1 (yl_rsw s) (yl_rhe s) := by
  have e := td_e h h0
  show (f_X3_gainAtTheEdge_j1_1 (yl_rsw s) (yl_rhe s)).toInt32.toInt64 = _
  exact to32 (by rw [e.1]; omega) (by rw [e.1]; omega)
theorem td_g {s : LT} {he : Int32} (h : Told s he) (h0 : ¬ yl_rsw s = (0 : Int64)) : (lr_ultimateGain s).toInt64 = (((904000 : Int64) * he.toInt64) / ((355 : Int64) * (yl_rsw s))) := by
  have e := td_e h h0
  have hp := td_pos h h0
  have h1 := h.2.2.2.2
  rw [td_u h h0, fa_eq64, e.1, dv_64 (by rw [e.2.2.2.2]; omega), e.2.2.2.1, e.2.2.2.2]
  exact (Int.tdiv_eq_ediv_of_nonneg (by omega)).symm
theorem dv_nn {x y : Int64} (hx : 0 ≤ x.toInt) (hy : 0 < y.toInt) : (x / y).toInt = x.toInt / y.toInt := by
  rw [dv_64 hy]; exact Int.tdiv_eq_ediv_of_nonneg hx
theorem min_32 {x m : Int64} (hm0 : 0 ≤ m.toInt) (hm : m.toInt ≤ 50000) (hx : 0 ≤ x.toInt) : (m ≤ x → (if m < x then m else x).toInt32.toInt64 = m) ∧ (¬ m ≤ x → (if m < x then m else x).toInt32.toInt64 = x) ∧ 0 ≤ (if m < x then m else x).toInt32.toInt ∧ (if m < x then m else x).toInt32.toInt ≤ m.toInt := by
  by_cases c : m < x
  · rw [if_pos c]
    rw [fa_lt64] at c
    have e := to32 (x := m) (by omega) (by omega)
    have e2 : m.toInt32.toInt = m.toInt := by rw [← Int32.toInt_toInt64, e]
    refine ⟨fun _ => e, fun q => absurd (by rw [fa_le64]; omega) q, by omega, by omega⟩
  · rw [if_neg c]
    rw [fa_lt64] at c
    have e := to32 (x := x) (by omega) (by omega)
    have e2 : x.toInt32.toInt = x.toInt := by rw [← Int32.toInt_toInt64, e]
    refine ⟨fun q => ?_, fun _ => e, by omega, by omega⟩
    rw [e, fa_eq64]
    rw [fa_le64] at q
    omega
theorem td_p {s : LT} {he : Int32} (h : Told s he) (h0 : ¬ yl_rsw s = (0 : Int64)) : ((20000 : Int64) ≤ (((6 : Int64) * (lr_ultimateGain s).toInt64) / (10 : Int64)) → (lr_proposed s (0 : Int32) (0 : Int32)).toInt64 = (20000 : Int64)) ∧ (¬ (20000 : Int64) ≤ (((6 : Int64) * (lr_ultimateGain s).toInt64) / (10 : Int64)) → (lr_proposed s (0 : Int32) (0 : Int32)).toInt64 = (((6 : Int64) * (lr_ultimateGain s).toInt64) / (10 : Int64))) := by
  have e := td_e h h0
  have z6 : (6 : Int64).toInt = 6 := rfl
  have z10 : (10 : Int64).toInt = 10 := rfl
  rw [td_u h h0]
  have m : ((6 : Int64) * f_X3_gainAtTheEdge_j1_1 (yl_rsw s) (yl_rhe s)).toInt = 6 * (f_X3_gainAtTheEdge_j1_1 (yl_rsw s) (yl_rhe s)).toInt := by rw [fb_mulL (by rw [z6, e.1]; omega) (by rw [z6, e.1]; omega), z6]
  have d := dv_nn (x := (6 : Int64) * f_X3_gainAtTheEdge_j1_1 (yl_rsw s) (yl_rhe s)) (y := 10) (by rw [m, e.1]; omega) (by decide)
  have hP : lr_proposed s (0 : Int32) (0 : Int32) = (if (20000 : Int64) < (((6 : Int64) * f_X3_gainAtTheEdge_j1_1 (yl_rsw s) (yl_rhe s)) / (10 : Int64)) then (20000 : Int64) else (((6 : Int64) * f_X3_gainAtTheEdge_j1_1 (yl_rsw s) (yl_rhe s)) / (10 : Int64))).toInt32 := by
    unfold lr_proposed f_X5_proposed_r f_X3_proposedP_j1_1
    rw [if_pos rfl, if_pos rfl]
  rw [hP]
  have k := min_32 (x := (((6 : Int64) * f_X3_gainAtTheEdge_j1_1 (yl_rsw s) (yl_rhe s)) / (10 : Int64))) (m := 20000) (by decide) (by decide) (by rw [d, m, z10, e.1]; omega)
  exact ⟨k.1, k.2.1⟩
theorem td_i {s : LT} {he : Int32} (h : Told s he) (h0 : ¬ yl_rsw s = (0 : Int64)) : ((5000 : Int64) ≤ (((100 : Int64) * (lr_ultimateGain s).toInt64) / ((484 : Int64) * (yl_rpe s).toInt64)) → (lr_proposed s (1 : Int32) (1 : Int32)).toInt64 = (5000 : Int64)) ∧ (¬ (5000 : Int64) ≤ (((100 : Int64) * (lr_ultimateGain s).toInt64) / ((484 : Int64) * (yl_rpe s).toInt64)) → (lr_proposed s (1 : Int32) (1 : Int32)).toInt64 = (((100 : Int64) * (lr_ultimateGain s).toInt64) / ((484 : Int64) * (yl_rpe s).toInt64))) := by
  have e := td_e h h0
  obtain ⟨-, -, ⟨p1, p2⟩, -⟩ := id h
  have z6 : (100 : Int64).toInt = 100 := rfl
  have z4 : (484 : Int64).toInt = 484 := rfl
  rw [td_u h h0]
  have m : ((100 : Int64) * f_X3_gainAtTheEdge_j1_1 (yl_rsw s) (yl_rhe s)).toInt = 100 * (f_X3_gainAtTheEdge_j1_1 (yl_rsw s) (yl_rhe s)).toInt := by rw [fb_mulL (by rw [z6, e.1]; omega) (by rw [z6, e.1]; omega), z6]
  have m2 : ((484 : Int64) * (yl_rpe s).toInt64).toInt = 484 * (yl_rpe s).toInt := by rw [fb_mulL (by rw [z4, Int32.toInt_toInt64]; omega) (by rw [z4, Int32.toInt_toInt64]; omega), z4, Int32.toInt_toInt64]
  have d := dv_nn (x := (100 : Int64) * f_X3_gainAtTheEdge_j1_1 (yl_rsw s) (yl_rhe s)) (y := (484 : Int64) * (yl_rpe s).toInt64) (by rw [m, e.1]; omega) (by rw [m2]; omega)
  have hr : (0 : Int32) < yl_rpe s := by
    have z : (0 : Int32).toInt = 0 := rfl
    rw [fa_lt, z]; omega
  have hP : lr_proposed s (1 : Int32) (1 : Int32) = (if (5000 : Int64) < (((100 : Int64) * f_X3_gainAtTheEdge_j1_1 (yl_rsw s) (yl_rhe s)) / ((484 : Int64) * (yl_rpe s).toInt64)) then (5000 : Int64) else (((100 : Int64) * f_X3_gainAtTheEdge_j1_1 (yl_rsw s) (yl_rhe s)) / ((484 : Int64) * (yl_rpe s).toInt64))).toInt32 := by
    unfold lr_proposed f_X5_proposed_r f_X3_proposedI_r f_X3_proposedI_j1_1
    rw [if_neg (by decide), if_pos rfl, if_pos hr, if_neg (by decide)]
  rw [hP]
  have k := min_32 (x := (((100 : Int64) * f_X3_gainAtTheEdge_j1_1 (yl_rsw s) (yl_rhe s)) / ((484 : Int64) * (yl_rpe s).toInt64))) (m := 5000) (by decide) (by decide) (by rw [d]; exact Int.ediv_nonneg (by rw [m, e.1]; omega) (by rw [m2]; omega))
  exact ⟨k.1, k.2.1⟩
theorem td_d {s : LT} {he : Int32} (h : Told s he) (h0 : ¬ yl_rsw s = (0 : Int64)) : ¬ lr_proposed s (0 : Int32) (2 : Int32) < (0 : Int32) ∧ ¬ (50000 : Int32) < lr_proposed s (0 : Int32) (2 : Int32) := by
  have e := td_e h h0
  obtain ⟨-, -, ⟨p1, p2⟩, -⟩ := id h
  have z3 : (3 : Int64).toInt = 3 := rfl
  have z40 : (40 : Int64).toInt = 40 := rfl
  generalize hE : f_X3_gainAtTheEdge_j1_1 (yl_rsw s) (yl_rhe s) = E at e
  have m : ((3 : Int64) * E).toInt = 3 * E.toInt := by rw [fb_mulL (by rw [z3, e.1]; omega) (by rw [z3, e.1]; omega), z3]
  have m2 := mul_b (x := (3 : Int64) * E) (y := (yl_rpe s).toInt64) (a := 40000000) (b := 200) (by decide) (by decide) (by rw [m, e.1]; omega) (by rw [m, e.1]; omega) (by rw [Int32.toInt_toInt64]; omega) (by rw [Int32.toInt_toInt64]; omega) (by decide)
  have nn : 0 ≤ ((3 : Int64) * E * (yl_rpe s).toInt64).toInt := by
    rw [m2.1]
    exact Int.mul_nonneg (by rw [m, e.1]; omega) (by rw [Int32.toInt_toInt64]; omega)
  have d := dv_nn (x := (3 : Int64) * E * (yl_rpe s).toInt64) (y := 40) nn (by decide)
  have hP : lr_proposed s (0 : Int32) (2 : Int32) = (if (50000 : Int64) < (((3 : Int64) * E * (yl_rpe s).toInt64) / (40 : Int64)) then (50000 : Int64) else (((3 : Int64) * E * (yl_rpe s).toInt64) / (40 : Int64))).toInt32 := by
    unfold lr_proposed f_X5_proposed_r f_X3_proposedD_j1_1
    rw [if_neg (by decide), if_neg (by decide), if_pos rfl, hE]
  rw [hP]
  have k := min_32 (x := (((3 : Int64) * E * (yl_rpe s).toInt64) / (40 : Int64))) (m := 50000) (by decide) (by decide) (by rw [d, z40]; exact Int.ediv_nonneg nn (by decide))
  have z0 : (0 : Int32).toInt = 0 := rfl
  have z5 : (50000 : Int32).toInt = 50000 := rfl
  have z5' : (50000 : Int64).toInt = 50000 := rfl
  rw [fa_lt, fa_lt, z0, z5]
  omega
set_option maxHeartbeats 4000000 in
set_option maxRecDepth 100000 in
theorem c_L_isTold (l : Launch) (dC : Nat → ClassId) (dI : Nat → Nat → Nat) (cI cJ cZ cO : ClassId) (adB adA adW adU adG adN : Nat) (lf : Nat → Option Nat) (a : Nat → AT) (bs : Int32) (T : Nat → LT) (fw fu fg : Nat → Int64) (fn : Nat → Int32) (k : Nat) (he : Int32) (sz : Nat) (hlf : ∀ j : Nat, j < 3 → lf (nI j).toNatClampNeg = some (ya_adL (a j))) (hk : k < 3) (ht : Told (T k) he) : Met l yL_isTold (Cond.code yL_isTold cL_isTold 13 (some .boolean) :: wAll) ({ frames := 4, cells := 0, slots := 0, locals := 92 }) (va_Pc [.ref adB, .int (nI k), .int he] (gP (dC, dI) ([zAJ cJ adW 60 fw, zAJ cJ adU 33 fu, zAJ cJ adG 60 fg, zAI cI adN 6 fn] ++ wB cI cJ cO adB adA lf bs a T) (tyG cI cJ cZ cO) sz gN)) (va_Qi (fun r (u : Unit) => r = 1) (fun u t => gB (dC, dI) (va_A ([zAJ cJ adW 60 fw, zAJ cJ adU 33 fu, zAJ cJ adG 60 fg, zAI cI adN 6 fn] ++ wB cI cJ cO adB adA lf bs a T) sz) ([zAJ cJ adW 60 fw, zAJ cJ adU 33 fu, zAJ cJ adG 60 fg, zAI cI adN 6 fn] ++ wB cI cJ cO adB adA lf bs a T) (tyG cI cJ cZ cO) t) (va_A ([zAJ cJ adW 60 fw, zAJ cJ adU 33 fu, zAJ cJ adG 60 fg, zAI cI adN 6 fn] ++ wB cI cJ cO adB adA lf bs a T) sz)) 0 0 (va_A ([zAJ cJ adW 60 fw, zAJ cJ adU 33 fu, zAJ cJ adG 60 fg, zAI cI adN 6 fn] ++ wB cI cJ cO adB adA lf bs a T) sz) := by
  refine Met.ofW (cc := cL_isTold) (maxL := 13) (ret := (some .boolean)) (by decide) rfl ?_
  intro p e s m args below meth c s₁ B hml hv
  obtain ⟨rfl, hsz, hP, hK, hD0, hG⟩ := hv
  have hx := B.exec
  have hb := B.bytes
  have hr := B.returns
  have hts := ht_of B.pre
  have hown : s.vm.findClass RL = some m.cls := findClass_of_methodNamed B.named
  have hlocks := B.notSynchronized
  subst hsz
  have hD := hD0.self (sz := s.heap.size)
  generalize hAe : va_A ([zAJ cJ adW 60 fw, zAJ cJ adU 33 fu, zAJ cJ adG 60 fg, zAI cI adN 6 fn] ++ wB cI cJ cO adB adA lf bs a T) s.heap.size = A at hD ⊢
  have hA : ∀ q : Nat, s.heap.size ≤ q → A q := fun q h => by rw [← hAe]; exact Or.inr h
  have hS : va_S A s.heap s.heap [] := va_S.rf
  have hl := lv_entry ([.ref adB, .int (nI k), .int he]) (n := 13) (Nat.le_of_ble_eq_true rfl)
  rw [lg_entry_eq]
  generalize (lg_sl ([.ref adB, .int (nI k), .int he]) ++ List.replicate (13 - (lg_sl ([.ref adB, .int (nI k), .int he])).length) Slot.unset).toArray = ls at hl ⊢
  have hl : lv_has ls 13 [(0, .ref adB), (1, .int (nI k)), (2, .int he)] := hl
  refine hh_name (fun Q hQ => ?_)
  have K := fx_mk hx hb hml hown hts hG hK hlf
  have hcs : (0 : Nat) ≤ 0 ∧ (0 : Nat) ≤ 0 := ⟨Nat.zero_le _, Nat.zero_le _⟩
  refine lv_aload_n hx hb dL_isTold_0 rfl (lv_at hl 0 rfl) ?_
  refine lv_iload_n hx hb dL_isTold_1 rfl (lv_at hl 1 rfl) ?_
  refine s_swing (k := k)  K hk (td_sw ht) ⟨Nat.le_of_ble_eq_true rfl, Nat.le_of_ble_eq_true rfl⟩ hcs (Nat.le_of_ble_eq_true rfl) hP hD hS hA hl.1 dL_isTold_2 (fun H locs hP hD hS => ?_)
  refine hh_setl (y := (yl_rsw (T k))) (rfl) ?_
  refine lv_lstore_n (lv' := [(3, .long (yl_rsw (T k))), (0, .ref adB), (1, .int (nI k)), (2, .int he)]) hx hb dL_isTold_5 rfl hl (by decide) rfl (fun ls hl => ?_)
  refine lv_aload_n hx hb dL_isTold_6 rfl (lv_at hl 1 rfl) ?_
  refine lv_iload_n hx hb dL_isTold_7 rfl (lv_at hl 2 rfl) ?_
  refine s_period (k := k)  K hk (td_pd ht) ⟨Nat.le_of_ble_eq_true rfl, Nat.le_of_ble_eq_true rfl⟩ hcs (Nat.le_of_ble_eq_true rfl) hP hD hS hA hl.1 dL_isTold_8 (fun H locs hP hD hS => ?_)
  refine hh_seti (y := (yl_rpe (T k))) (rfl) ?_
  refine lv_istore (lv' := [(5, .int (yl_rpe (T k))), (3, .long (yl_rsw (T k))), (0, .ref adB), (1, .int (nI k)), (2, .int he)]) hx hb dL_isTold_11 hl (by decide) rfl (fun ls hl => ?_)
  refine lv_lload_n hx hb dL_isTold_13 rfl (lv_at hl 1 rfl) ?_
  refine lv_lconst (v := 0) hx hb dL_isTold_14 (by decide) ?_
  refine hh_clt (tgt := 33) hx hb dL_isTold_15 dL_isTold_16 (by decide) (fun h9 => absurd h9 (td_nn ht)) (fun _ => ?_)
  refine lv_iload hx hb dL_isTold_19 (lv_at hl 0 rfl) ?_
  refine lv_iconst (v := 2) hx hb dL_isTold_21 (by decide) ?_
  refine lv_icmp_lt (tgt := 33) hx hb dL_isTold_22 (by decide) (fun h9 => absurd h9 ((td_pe ht).1)) (fun _ => ?_)
  refine lv_iload hx hb dL_isTold_25 (lv_at hl 0 rfl) ?_
  refine lv_sipush (v := 200) hx hb dL_isTold_27 (by decide) ?_
  refine lv_icmp_le (tgt := 35) hx hb dL_isTold_30 (by decide) (fun _ => ?_) (fun h9 => absurd ((td_pe ht).2) h9)
  refine lv_lload_n hx hb dL_isTold_35 rfl (lv_at hl 1 rfl) ?_
  refine lv_lconst (v := 0) hx hb dL_isTold_36 (by decide) ?_
  refine hh_cne (tgt := 43) hx hb dL_isTold_37 dL_isTold_38 (by decide) (fun h0 => ?_) (fun h0 => ?_)
  · skip
    refine lv_aload_n hx hb dL_isTold_43 rfl (lv_at hl 2 rfl) ?_
    refine lv_iload_n hx hb dL_isTold_44 rfl (lv_at hl 3 rfl) ?_
    refine s_ultimateGain (k := k)  K hk (td_le ht) (td_ug ht h0) ⟨Nat.le_of_ble_eq_true rfl, Nat.le_of_ble_eq_true rfl⟩ hcs (Nat.le_of_ble_eq_true rfl) hP hD hS hA hl.1 dL_isTold_45 (fun H locs hP hD hS => ?_)
    refine lv_i2l hx hb dL_isTold_48 rfl ?_
    refine lv_lstore (lv' := [(6, .long (lr_ultimateGain (T k)).toInt64), (5, .int (yl_rpe (T k))), (3, .long (yl_rsw (T k))), (0, .ref adB), (1, .int (nI k)), (2, .int he)]) hx hb dL_isTold_49 hl (by decide) rfl (fun ls hl => ?_)
    refine lv_lload hx hb dL_isTold_51 (lv_at hl 0 rfl) ?_
    refine lv_ldc2 (v := 904000) hx hb hown (hts _ wd_3_211) dL_isTold_53 ?_
    refine lv_iload_n hx hb dL_isTold_56 rfl (lv_at hl 5 rfl) ?_
    refine lv_i2l hx hb dL_isTold_57 rfl ?_
    refine lv_lmul hx hb dL_isTold_58 ?_
    refine lv_ldc2 (v := 355) hx hb hown (hts _ wd_3_212) dL_isTold_59 ?_
    refine lv_lload_n hx hb dL_isTold_62 rfl (lv_at hl 2 rfl) ?_
    refine lv_lmul hx hb dL_isTold_63 ?_
    refine lv_ldiv hx hb dL_isTold_64 (td_z ht h0) ?_
    refine hh_cne (tgt := 73) hx hb dL_isTold_65 dL_isTold_66 (by decide) (fun h9 => absurd (td_g ht h0) h9) (fun _ => ?_)
    refine lv_iconst (v := 1) hx hb dL_isTold_69 (by decide) ?_
    refine lv_goto (tgt := 74) hx hb dL_isTold_70 (by decide) ?_
    refine lv_istore (lv' := [(8, .int (1 : Int32)), (6, .long (lr_ultimateGain (T k)).toInt64), (5, .int (yl_rpe (T k))), (3, .long (yl_rsw (T k))), (0, .ref adB), (1, .int (nI k)), (2, .int he)]) hx hb dL_isTold_74 hl (by decide) rfl (fun ls hl => ?_)
    refine lv_ldc2 (v := 6) hx hb hown (hts _ wd_3_213) dL_isTold_76 ?_
    refine lv_lload hx hb dL_isTold_79 (lv_at hl 1 rfl) ?_
    refine lv_lmul hx hb dL_isTold_81 ?_
    refine lv_ldc2 (v := 10) hx hb hown (hts _ wd_3_214) dL_isTold_82 ?_
    refine lv_ldiv hx hb dL_isTold_85 (by decide) ?_
    refine lv_lstore (lv' := [(9, .long (((6 : Int64) * ((lr_ultimateGain (T k)).toInt64)) / (10 : Int64))), (8, .int (1 : Int32)), (6, .long (lr_ultimateGain (T k)).toInt64), (5, .int (yl_rpe (T k))), (3, .long (yl_rsw (T k))), (0, .ref adB), (1, .int (nI k)), (2, .int he)]) hx hb dL_isTold_86 hl (by decide) rfl (fun ls hl => ?_)
    refine lv_ldc2 (v := 100) hx hb hown (hts _ wd_3_215) dL_isTold_88 ?_
    refine lv_lload hx hb dL_isTold_91 (lv_at hl 2 rfl) ?_
    refine lv_lmul hx hb dL_isTold_93 ?_
    refine lv_ldc2 (v := 484) hx hb hown (hts _ wd_3_216) dL_isTold_94 ?_
    refine lv_iload hx hb dL_isTold_97 (lv_at hl 3 rfl) ?_
    refine lv_i2l hx hb dL_isTold_99 rfl ?_
    refine lv_lmul hx hb dL_isTold_100 ?_
    refine lv_ldiv hx hb dL_isTold_101 (td_z2 ht) ?_
    refine lv_lstore (lv' := [(11, .long (((100 : Int64) * ((lr_ultimateGain (T k)).toInt64)) / ((484 : Int64) * ((yl_rpe (T k)).toInt64)))), (9, .long (((6 : Int64) * ((lr_ultimateGain (T k)).toInt64)) / (10 : Int64))), (8, .int (1 : Int32)), (6, .long (lr_ultimateGain (T k)).toInt64), (5, .int (yl_rpe (T k))), (3, .long (yl_rsw (T k))), (0, .ref adB), (1, .int (nI k)), (2, .int he)]) hx hb dL_isTold_102 hl (by decide) rfl (fun ls hl => ?_)
    refine lv_iload hx hb dL_isTold_104 (lv_at hl 2 rfl) ?_
    refine lv_if_eq (tgt := 193) hx hb dL_isTold_106 (by decide) (fun h9 => absurd h9 (by decide)) (fun _ => ?_)
    refine lv_aload_n hx hb dL_isTold_109 rfl (lv_at hl 6 rfl) ?_
    refine lv_iload_n hx hb dL_isTold_110 rfl (lv_at hl 7 rfl) ?_
    refine lv_iconst (v := 0) hx hb dL_isTold_111 (by decide) ?_
    refine lv_iconst (v := 0) hx hb dL_isTold_112 (by decide) ?_
    refine s_proposed (k := k) (ruv := (0 : Int32)) (wh := (0 : Int32)) K hk (td_le ht) (by decide) (by decide) (by decide) (by decide) (td_pr ht h0) ⟨Nat.le_of_ble_eq_true rfl, Nat.le_of_ble_eq_true rfl⟩ hcs (Nat.le_of_ble_eq_true rfl) hP hD hS hA hl.1 dL_isTold_113 (fun H locs hP hD hS => ?_)
    refine lv_i2l hx hb dL_isTold_116 rfl ?_
    refine lv_lload hx hb dL_isTold_117 (lv_at hl 1 rfl) ?_
    refine lv_ldc2 (v := 20000) hx hb hown (hts _ wd_4_6) dL_isTold_119 ?_
    refine hh_cge (tgt := 131) hx hb dL_isTold_122 dL_isTold_123 (by decide) (fun hp => ?_) (fun hp => ?_)
    · skip
      refine lv_ldc2 (v := 20000) hx hb hown (hts _ wd_4_6) dL_isTold_131 ?_
      refine hh_cne (tgt := 193) hx hb dL_isTold_134 dL_isTold_135 (by decide) (fun h9 => absurd ((td_p ht h0).1 hp) h9) (fun _ => ?_)
      refine lv_aload_n hx hb dL_isTold_138 rfl (lv_at hl 6 rfl) ?_
      refine lv_iload_n hx hb dL_isTold_139 rfl (lv_at hl 7 rfl) ?_
      refine lv_iconst (v := 1) hx hb dL_isTold_140 (by decide) ?_
      refine lv_iconst (v := 1) hx hb dL_isTold_141 (by decide) ?_
      refine s_proposed (k := k) (ruv := (1 : Int32)) (wh := (1 : Int32)) K hk (td_le ht) (by decide) (by decide) (by decide) (by decide) (td_pr ht h0) ⟨Nat.le_of_ble_eq_true rfl, Nat.le_of_ble_eq_true rfl⟩ hcs (Nat.le_of_ble_eq_true rfl) hP hD hS hA hl.1 dL_isTold_142 (fun H locs hP hD hS => ?_)
      refine lv_i2l hx hb dL_isTold_145 rfl ?_
      refine lv_lload hx hb dL_isTold_146 (lv_at hl 0 rfl) ?_
      refine lv_ldc2 (v := 5000) hx hb hown (hts _ wd_4_7) dL_isTold_148 ?_
      refine hh_cge (tgt := 160) hx hb dL_isTold_151 dL_isTold_152 (by decide) (fun hq => ?_) (fun hq => ?_)
      · skip
        refine lv_ldc2 (v := 5000) hx hb hown (hts _ wd_4_7) dL_isTold_160 ?_
        refine hh_cne (tgt := 193) hx hb dL_isTold_163 dL_isTold_164 (by decide) (fun h9 => absurd ((td_i ht h0).1 hq) h9) (fun _ => ?_)
        refine lv_aload_n hx hb dL_isTold_167 rfl (lv_at hl 6 rfl) ?_
        refine lv_iload_n hx hb dL_isTold_168 rfl (lv_at hl 7 rfl) ?_
        refine lv_iconst (v := 0) hx hb dL_isTold_169 (by decide) ?_
        refine lv_iconst (v := 2) hx hb dL_isTold_170 (by decide) ?_
        refine s_proposed (k := k) (ruv := (0 : Int32)) (wh := (2 : Int32)) K hk (td_le ht) (by decide) (by decide) (by decide) (by decide) (td_pr ht h0) ⟨Nat.le_of_ble_eq_true rfl, Nat.le_of_ble_eq_true rfl⟩ hcs (Nat.le_of_ble_eq_true rfl) hP hD hS hA hl.1 dL_isTold_171 (fun H locs hP hD hS => ?_)
        refine lv_if_lt (tgt := 193) hx hb dL_isTold_174 (by decide) (fun h9 => absurd h9 ((td_d ht h0).1)) (fun _ => ?_)
        refine lv_aload_n hx hb dL_isTold_177 rfl (lv_at hl 6 rfl) ?_
        refine lv_iload_n hx hb dL_isTold_178 rfl (lv_at hl 7 rfl) ?_
        refine lv_iconst (v := 0) hx hb dL_isTold_179 (by decide) ?_
        refine lv_iconst (v := 2) hx hb dL_isTold_180 (by decide) ?_
        refine s_proposed (k := k) (ruv := (0 : Int32)) (wh := (2 : Int32)) K hk (td_le ht) (by decide) (by decide) (by decide) (by decide) (td_pr ht h0) ⟨Nat.le_of_ble_eq_true rfl, Nat.le_of_ble_eq_true rfl⟩ hcs (Nat.le_of_ble_eq_true rfl) hP hD hS hA hl.1 dL_isTold_181 (fun H locs hP hD hS => ?_)
        refine lv_ldc (v := 50000) hx hb hown (hts _ wd_4_8) dL_isTold_184 ?_
        refine lv_icmp_gt (tgt := 193) hx hb dL_isTold_186 (by decide) (fun h9 => absurd h9 ((td_d ht h0).2)) (fun _ => ?_)
        refine lv_iconst (v := 1) hx hb dL_isTold_189 (by decide) ?_
        refine lv_goto (tgt := 194) hx hb dL_isTold_190 (by decide) ?_
        exact hh_retS (w := fun (u : Unit) => ([zAJ cJ adW 60 fw, zAJ cJ adU 33 fu, zAJ cJ adG 60 fg, zAI cI adN 6 fn] ++ wB cI cJ cO adB adA lf bs a T)) (()) hQ (rfl) (rfl) hx hb hr hlocks hP hK hD hS dL_isTold_194
      · skip
        refine lv_lload hx hb dL_isTold_155 (lv_at hl 0 rfl) ?_
        refine lv_goto (tgt := 163) hx hb dL_isTold_157 (by decide) ?_
        refine hh_cne (tgt := 193) hx hb dL_isTold_163 dL_isTold_164 (by decide) (fun h9 => absurd ((td_i ht h0).2 hq) h9) (fun _ => ?_)
        refine lv_aload_n hx hb dL_isTold_167 rfl (lv_at hl 6 rfl) ?_
        refine lv_iload_n hx hb dL_isTold_168 rfl (lv_at hl 7 rfl) ?_
        refine lv_iconst (v := 0) hx hb dL_isTold_169 (by decide) ?_
        refine lv_iconst (v := 2) hx hb dL_isTold_170 (by decide) ?_
        refine s_proposed (k := k) (ruv := (0 : Int32)) (wh := (2 : Int32)) K hk (td_le ht) (by decide) (by decide) (by decide) (by decide) (td_pr ht h0) ⟨Nat.le_of_ble_eq_true rfl, Nat.le_of_ble_eq_true rfl⟩ hcs (Nat.le_of_ble_eq_true rfl) hP hD hS hA hl.1 dL_isTold_171 (fun H locs hP hD hS => ?_)
        refine lv_if_lt (tgt := 193) hx hb dL_isTold_174 (by decide) (fun h9 => absurd h9 ((td_d ht h0).1)) (fun _ => ?_)
        refine lv_aload_n hx hb dL_isTold_177 rfl (lv_at hl 6 rfl) ?_
        refine lv_iload_n hx hb dL_isTold_178 rfl (lv_at hl 7 rfl) ?_
        refine lv_iconst (v := 0) hx hb dL_isTold_179 (by decide) ?_
        refine lv_iconst (v := 2) hx hb dL_isTold_180 (by decide) ?_
        refine s_proposed (k := k) (ruv := (0 : Int32)) (wh := (2 : Int32)) K hk (td_le ht) (by decide) (by decide) (by decide) (by decide) (td_pr ht h0) ⟨Nat.le_of_ble_eq_true rfl, Nat.le_of_ble_eq_true rfl⟩ hcs (Nat.le_of_ble_eq_true rfl) hP hD hS hA hl.1 dL_isTold_181 (fun H locs hP hD hS => ?_)
        refine lv_ldc (v := 50000) hx hb hown (hts _ wd_4_8) dL_isTold_184 ?_
        refine lv_icmp_gt (tgt := 193) hx hb dL_isTold_186 (by decide) (fun h9 => absurd h9 ((td_d ht h0).2)) (fun _ => ?_)
        refine lv_iconst (v := 1) hx hb dL_isTold_189 (by decide) ?_
        refine lv_goto (tgt := 194) hx hb dL_isTold_190 (by decide) ?_
        exact hh_retS (w := fun (u : Unit) => ([zAJ cJ adW 60 fw, zAJ cJ adU 33 fu, zAJ cJ adG 60 fg, zAI cI adN 6 fn] ++ wB cI cJ cO adB adA lf bs a T)) (()) hQ (rfl) (rfl) hx hb hr hlocks hP hK hD hS dL_isTold_194
    · skip
      refine lv_lload hx hb dL_isTold_126 (lv_at hl 1 rfl) ?_
      refine lv_goto (tgt := 134) hx hb dL_isTold_128 (by decide) ?_
      refine hh_cne (tgt := 193) hx hb dL_isTold_134 dL_isTold_135 (by decide) (fun h9 => absurd ((td_p ht h0).2 hp) h9) (fun _ => ?_)
      refine lv_aload_n hx hb dL_isTold_138 rfl (lv_at hl 6 rfl) ?_
      refine lv_iload_n hx hb dL_isTold_139 rfl (lv_at hl 7 rfl) ?_
      refine lv_iconst (v := 1) hx hb dL_isTold_140 (by decide) ?_
      refine lv_iconst (v := 1) hx hb dL_isTold_141 (by decide) ?_
      refine s_proposed (k := k) (ruv := (1 : Int32)) (wh := (1 : Int32)) K hk (td_le ht) (by decide) (by decide) (by decide) (by decide) (td_pr ht h0) ⟨Nat.le_of_ble_eq_true rfl, Nat.le_of_ble_eq_true rfl⟩ hcs (Nat.le_of_ble_eq_true rfl) hP hD hS hA hl.1 dL_isTold_142 (fun H locs hP hD hS => ?_)
      refine lv_i2l hx hb dL_isTold_145 rfl ?_
      refine lv_lload hx hb dL_isTold_146 (lv_at hl 0 rfl) ?_
      refine lv_ldc2 (v := 5000) hx hb hown (hts _ wd_4_7) dL_isTold_148 ?_
      refine hh_cge (tgt := 160) hx hb dL_isTold_151 dL_isTold_152 (by decide) (fun hq => ?_) (fun hq => ?_)
      · skip
        refine lv_ldc2 (v := 5000) hx hb hown (hts _ wd_4_7) dL_isTold_160 ?_
        refine hh_cne (tgt := 193) hx hb dL_isTold_163 dL_isTold_164 (by decide) (fun h9 => absurd ((td_i ht h0).1 hq) h9) (fun _ => ?_)
        refine lv_aload_n hx hb dL_isTold_167 rfl (lv_at hl 6 rfl) ?_
        refine lv_iload_n hx hb dL_isTold_168 rfl (lv_at hl 7 rfl) ?_
        refine lv_iconst (v := 0) hx hb dL_isTold_169 (by decide) ?_
        refine lv_iconst (v := 2) hx hb dL_isTold_170 (by decide) ?_
        refine s_proposed (k := k) (ruv := (0 : Int32)) (wh := (2 : Int32)) K hk (td_le ht) (by decide) (by decide) (by decide) (by decide) (td_pr ht h0) ⟨Nat.le_of_ble_eq_true rfl, Nat.le_of_ble_eq_true rfl⟩ hcs (Nat.le_of_ble_eq_true rfl) hP hD hS hA hl.1 dL_isTold_171 (fun H locs hP hD hS => ?_)
        refine lv_if_lt (tgt := 193) hx hb dL_isTold_174 (by decide) (fun h9 => absurd h9 ((td_d ht h0).1)) (fun _ => ?_)
        refine lv_aload_n hx hb dL_isTold_177 rfl (lv_at hl 6 rfl) ?_
        refine lv_iload_n hx hb dL_isTold_178 rfl (lv_at hl 7 rfl) ?_
        refine lv_iconst (v := 0) hx hb dL_isTold_179 (by decide) ?_
        refine lv_iconst (v := 2) hx hb dL_isTold_180 (by decide) ?_
        refine s_proposed (k := k) (ruv := (0 : Int32)) (wh := (2 : Int32)) K hk (td_le ht) (by decide) (by decide) (by decide) (by decide) (td_pr ht h0) ⟨Nat.le_of_ble_eq_true rfl, Nat.le_of_ble_eq_true rfl⟩ hcs (Nat.le_of_ble_eq_true rfl) hP hD hS hA hl.1 dL_isTold_181 (fun H locs hP hD hS => ?_)
        refine lv_ldc (v := 50000) hx hb hown (hts _ wd_4_8) dL_isTold_184 ?_
        refine lv_icmp_gt (tgt := 193) hx hb dL_isTold_186 (by decide) (fun h9 => absurd h9 ((td_d ht h0).2)) (fun _ => ?_)
        refine lv_iconst (v := 1) hx hb dL_isTold_189 (by decide) ?_
        refine lv_goto (tgt := 194) hx hb dL_isTold_190 (by decide) ?_
        exact hh_retS (w := fun (u : Unit) => ([zAJ cJ adW 60 fw, zAJ cJ adU 33 fu, zAJ cJ adG 60 fg, zAI cI adN 6 fn] ++ wB cI cJ cO adB adA lf bs a T)) (()) hQ (rfl) (rfl) hx hb hr hlocks hP hK hD hS dL_isTold_194
      · skip
        refine lv_lload hx hb dL_isTold_155 (lv_at hl 0 rfl) ?_
        refine lv_goto (tgt := 163) hx hb dL_isTold_157 (by decide) ?_
        refine hh_cne (tgt := 193) hx hb dL_isTold_163 dL_isTold_164 (by decide) (fun h9 => absurd ((td_i ht h0).2 hq) h9) (fun _ => ?_)
        refine lv_aload_n hx hb dL_isTold_167 rfl (lv_at hl 6 rfl) ?_
        refine lv_iload_n hx hb dL_isTold_168 rfl (lv_at hl 7 rfl) ?_
        refine lv_iconst (v := 0) hx hb dL_isTold_169 (by decide) ?_
        refine lv_iconst (v := 2) hx hb dL_isTold_170 (by decide) ?_
        refine s_proposed (k := k) (ruv := (0 : Int32)) (wh := (2 : Int32)) K hk (td_le ht) (by decide) (by decide) (by decide) (by decide) (td_pr ht h0) ⟨Nat.le_of_ble_eq_true rfl, Nat.le_of_ble_eq_true rfl⟩ hcs (Nat.le_of_ble_eq_true rfl) hP hD hS hA hl.1 dL_isTold_171 (fun H locs hP hD hS => ?_)
        refine lv_if_lt (tgt := 193) hx hb dL_isTold_174 (by decide) (fun h9 => absurd h9 ((td_d ht h0).1)) (fun _ => ?_)
        refine lv_aload_n hx hb dL_isTold_177 rfl (lv_at hl 6 rfl) ?_
        refine lv_iload_n hx hb dL_isTold_178 rfl (lv_at hl 7 rfl) ?_
        refine lv_iconst (v := 0) hx hb dL_isTold_179 (by decide) ?_
        refine lv_iconst (v := 2) hx hb dL_isTold_180 (by decide) ?_
        refine s_proposed (k := k) (ruv := (0 : Int32)) (wh := (2 : Int32)) K hk (td_le ht) (by decide) (by decide) (by decide) (by decide) (td_pr ht h0) ⟨Nat.le_of_ble_eq_true rfl, Nat.le_of_ble_eq_true rfl⟩ hcs (Nat.le_of_ble_eq_true rfl) hP hD hS hA hl.1 dL_isTold_181 (fun H locs hP hD hS => ?_)
        refine lv_ldc (v := 50000) hx hb hown (hts _ wd_4_8) dL_isTold_184 ?_
        refine lv_icmp_gt (tgt := 193) hx hb dL_isTold_186 (by decide) (fun h9 => absurd h9 ((td_d ht h0).2)) (fun _ => ?_)
        refine lv_iconst (v := 1) hx hb dL_isTold_189 (by decide) ?_
        refine lv_goto (tgt := 194) hx hb dL_isTold_190 (by decide) ?_
        exact hh_retS (w := fun (u : Unit) => ([zAJ cJ adW 60 fw, zAJ cJ adU 33 fu, zAJ cJ adG 60 fg, zAI cI adN 6 fn] ++ wB cI cJ cO adB adA lf bs a T)) (()) hQ (rfl) (rfl) hx hb hr hlocks hP hK hD hS dL_isTold_194
  · skip
    refine lv_iconst (v := 1) hx hb dL_isTold_41 (by decide) ?_
    exact hh_retS (w := fun (u : Unit) => ([zAJ cJ adW 60 fw, zAJ cJ adU 33 fu, zAJ cJ adG 60 fg, zAI cI adN 6 fn] ++ wB cI cJ cO adB adA lf bs a T)) (()) hQ (rfl) (rfl) hx hb hr hlocks hP hK hD hS dL_isTold_42
