-- an automatic sample: its sum, its output, its sum by increments
theorem sg_64 {x y : Int32} (h1 : -2147483648 ≤ x.toInt - y.toInt) (h2 : x.toInt - y.toInt < 2147483648) : (x - y).toInt64 = x.toInt64 - y.toInt64 := by
  rw [fa_eq64, Int32.toInt_toInt64, fb_subI h1 h2, fb_subL (by rw [Int32.toInt_toInt64, Int32.toInt_toInt64]; omega) (by rw [Int32.toInt_toInt64, Int32.toInt_toInt64]; omega), Int32.toInt_toInt64, Int32.toInt_toInt64]
/-- the integral behind a change of gains by the schedule -/
def KI (sn : Int32) (gm gp gd : Nat → Int32) (kp kd : Int32) (ksp kig pme pmb : Int64) : Int64 := if (f_X4_hasPoints_j1_1 sn) = (0 : Int32) then kig else (f_X0_changeGains_kig kp kd ksp kig pme pmb (f_X4_gainAt_r sn gm gp (f_X4_pointsReached_j1_1 sn gm pme) pme) (f_X4_gainAt_r sn gm gd (f_X4_pointsReached_j1_1 sn gm pme) pme))
theorem SG_n {sn : Int32} {gm gg : Nat → Int32} {x : Int32} {me : Int64} (h : ¬ f_X4_hasPoints_j1_1 sn = 0) : SG sn gm gg x me = f_X4_gainAt_r sn gm gg (f_X4_pointsReached_j1_1 sn gm me) me := if_neg h
theorem SG_z {sn : Int32} {gm gg : Nat → Int32} {x : Int32} {me : Int64} (h : f_X4_hasPoints_j1_1 sn = 0) : SG sn gm gg x me = x := if_pos h
theorem KI_sum {sn : Int32} {gm gp gi gd : Nat → Int32} {kp ki kd : Int32} {ksp kig pme pmb : Int64} (hb : Gb kp ki kd) (hs : Gb (SG sn gm gp kp pme) (SG sn gm gi ki pme) (SG sn gm gd kd pme)) :
    (SG sn gm gp kp pme).toInt64 * (ksp - pme) + KI sn gm gp gd kp kd ksp kig pme pmb + (SG sn gm gd kd pme).toInt64 * (pmb - pme) = kp.toInt64 * (ksp - pme) + kig + kd.toInt64 * (pmb - pme) := by
  unfold Gb at hb hs
  by_cases c : f_X4_hasPoints_j1_1 sn = 0
  · unfold KI
    rw [if_pos c, SG_z c, SG_z c]
  · unfold KI f_X0_changeGains_kig f_X0_error_r f_X0_rate_r
    rw [SG_n c, SG_n c, SG_n c] at hs
    rw [if_neg c, SG_n c, SG_n c]
    generalize f_X4_gainAt_r sn gm gp (f_X4_pointsReached_j1_1 sn gm pme) pme = P at hs ⊢
    generalize f_X4_gainAt_r sn gm gd (f_X4_pointsReached_j1_1 sn gm pme) pme = D at hs ⊢
    rw [sg_64 (x := kp) (y := P) (by omega) (by omega), sg_64 (x := kd) (y := D) (by omega) (by omega)]
    grind
/-- what an automatic turn makes of the loop -/
theorem x_lou (kp ki kd klo khi : Int32) (ksp kig pme pmb : Int64) (sn : Int32) (gm gp gi gd : Nat → Int32) : f_X1_actAutomatically_lou kp ki kd klo khi ksp kig pme pmb sn gm gp gi gd = f_X0_withinLimits_r klo khi (f_J9_floorDiv_f86c9_r ((((SG sn gm gp kp pme).toInt64 * (ksp - pme)) + ((KI sn gm gp gd kp kd ksp kig pme pmb) + ((SG sn gm gi ki pme).toInt64 * (ksp - pme)))) + ((SG sn gm gd kd pme).toInt64 * (pmb - pme))) (1000 : Int64)) := rfl
theorem x_khe (kp ki kd klo khi : Int32) (ksp kig pme pmb : Int64) (sn : Int32) (gm gp gi gd : Nat → Int32) (khe : Int32) : f_X1_actAutomatically_khe kp ki kd klo khi khe ksp kig pme pmb sn gm gp gi gd = if f_X0_withinLimits_r klo khi (f_J9_floorDiv_f86c9_r ((((SG sn gm gp kp pme).toInt64 * (ksp - pme)) + ((KI sn gm gp gd kp kd ksp kig pme pmb) + ((SG sn gm gi ki pme).toInt64 * (ksp - pme)))) + ((SG sn gm gd kd pme).toInt64 * (pmb - pme))) (1000 : Int64)) = (f_J9_floorDiv_f86c9_r ((((SG sn gm gp kp pme).toInt64 * (ksp - pme)) + ((KI sn gm gp gd kp kd ksp kig pme pmb) + ((SG sn gm gi ki pme).toInt64 * (ksp - pme)))) + ((SG sn gm gd kd pme).toInt64 * (pmb - pme))) (1000 : Int64)) then khe else khe + 1 := rfl
theorem x_ksu (kp ki kd klo khi : Int32) (ksp kig pme pmb : Int64) (sn : Int32) (gm gp gi gd : Nat → Int32) (ksu kle klr : Int64) (kgo : Int32) : f_X1_actAutomatically_ksu kp ki kd ksp kig ksu kle klr kgo pme pmb sn gm gp gi gd = if kgo = 0 then ((((SG sn gm gp kp pme).toInt64 * (ksp - pme)) + ((KI sn gm gp gd kp kd ksp kig pme pmb) + ((SG sn gm gi ki pme).toInt64 * (ksp - pme)))) + ((SG sn gm gd kd pme).toInt64 * (pmb - pme))) else ksu + ((((SG sn gm gp kp pme).toInt64 * ((ksp - pme) - kle)) + ((SG sn gm gi ki pme).toInt64 * (ksp - pme))) + ((SG sn gm gd kd pme).toInt64 * ((pmb - pme) - klr))) := rfl
theorem x_kig (kp ki kd klo khi : Int32) (ksp kig pme pmb : Int64) (sn : Int32) (gm gp gi gd : Nat → Int32) (kgu ksh : Int32) : f_X1_actAutomatically_kig kp ki kd klo khi kgu ksh ksp kig pme pmb sn gm gp gi gd = f_X0_guardAgainstWindup_j3_1 (SG sn gm gi ki pme) klo khi kgu ksh ((KI sn gm gp gd kp kd ksp kig pme pmb) + ((SG sn gm gi ki pme).toInt64 * (ksp - pme))) (ksp - pme) (f_J9_floorDiv_f86c9_r ((((SG sn gm gp kp pme).toInt64 * (ksp - pme)) + ((KI sn gm gp gd kp kd ksp kig pme pmb) + ((SG sn gm gi ki pme).toInt64 * (ksp - pme)))) + ((SG sn gm gd kd pme).toInt64 * (pmb - pme))) (1000 : Int64)) (f_X0_withinLimits_r klo khi (f_J9_floorDiv_f86c9_r ((((SG sn gm gp kp pme).toInt64 * (ksp - pme)) + ((KI sn gm gp gd kp kd ksp kig pme pmb) + ((SG sn gm gi ki pme).toInt64 * (ksp - pme)))) + ((SG sn gm gd kd pme).toInt64 * (pmb - pme))) (1000 : Int64))) := rfl
/-- not held: the integral has the error's part, the guard does nothing -/
theorem gw_no {ki lo hi gu sh : Int32} {ig e w : Int64} (h1 : lo.toInt64 ≤ w) (h2 : w ≤ hi.toInt64) : f_X0_guardAgainstWindup_j3_1 ki lo hi gu sh ig e w w = ig := by
  unfold f_X0_guardAgainstWindup_j3_1 f_X0_guardAgainstWindup_j2_1 f_X0_guardAgainstWindup_j1_1
  rw [if_pos h2, if_pos h1, if_pos rfl]
  by_cases a : gu = 1
  · rw [if_pos a]
  · rw [if_neg a]
    by_cases b : gu = 2
    · rw [if_pos b, Int64.sub_self, Int64.mul_zero, Int64.add_zero]
    · rw [if_neg b]
theorem khe_1 (x : Int32) : ¬ x + 1 = x := by
  intro h
  have h2 : x + 1 - x = x - x := by rw [h]
  rw [Int32.sub_self, Int32.add_comm, Int32.add_sub_cancel] at h2
  exact absurd h2 (by decide)
/-- floor of a thousand outputs and a rest -/
theorem fl_bump {v x : Int64} (hv : Ime v) (h1 : -20000000000 ≤ x.toInt) (h2 : x.toInt ≤ 20000000000) : f_J9_floorDiv_f86c9_r (1000 * v + x) 1000 = v + f_L_floor_r x 1000 := by
  have z1 : (1000 : Int64).toInt = 1000 := rfl
  obtain ⟨a, b⟩ := hv
  have m : (1000 * v).toInt = 1000 * v.toInt := by rw [fb_mulL (by rw [z1]; omega) (by rw [z1]; omega), z1]
  have m2 : (1000 * v + x).toInt = 1000 * v.toInt + x.toInt := by rw [fb_addL (by rw [m]; omega) (by rw [m]; omega), m]
  have f := fl_int (x := x) (by omega)
  rw [fa_eq64, fd_int (by decide), z1, m2, fb_addL (by rw [f]; omega) (by rw [f]; omega), f]
  omega
