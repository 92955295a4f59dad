set_option maxHeartbeats 2000000 in
set_option maxRecDepth 100000 in
theorem stepC_eq (T : LT × LT × LT) : stepC T = (gOn (tn0 T.1 (yl_lmo T.2.1) (yl_lma T.2.1) (yl_ksp T.2.1)), gOn (tn1 T.2.1 (yl_lou (tn0 T.1 (yl_lmo T.2.1) (yl_lma T.2.1) (yl_ksp T.2.1))) (yl_lmo T.2.2) (yl_lma T.2.2) (yl_ksp T.2.2)), gOn (tn2 T.2.2 (yl_lou (tn1 T.2.1 (yl_lou (tn0 T.1 (yl_lmo T.2.1) (yl_lma T.2.1) (yl_ksp T.2.1))) (yl_lmo T.2.2) (yl_lma T.2.2) (yl_ksp T.2.2))))) := rfl
theorem pj_ms_samples {ms_samples : Int32} {m_a1 : Nat → Int64} {m_a2 : Nat → Int64} {m_b : Nat → Int64} {m_deadTime : Nat → Int32} {m_load : Nat → Int32} {m_measure : Nat → Int64} {m_before : Nat → Int64} {m_past : Nat → Int64} {m_gain : Nat → Int64} {m_low : Nat → Int64} {m_high : Nat → Int64} {m_setpoint : Nat → Int64} {m_integral : Nat → Int64} {m_guard : Nat → Int32} {m_share : Nat → Int32} {m_mode : Nat → Int32} {m_hand : Nat → Int64} {m_follows : Nat → Int32} {m_hasMaster : Nat → Int32} {m_isStarved : Nat → Int32} {m_held : Nat → Int32} {m_sum : Nat → Int64} {m_lastError : Nat → Int64} {m_lastRate : Nat → Int64} {m_goesOn : Nat → Int32} {m_points : Nat → Int32} {m_at : Nat → Int64} {m_then : Nat → Int64} {m_experiment : Nat → Int32} {m_center : Nat → Int64} {m_height : Nat → Int32} {m_band : Nat → Int32} {m_isUp : Nat → Int32} {m_gone : Nat → Int32} {m_risings : Nat → Int32} {m_second : Nat → Int32} {m_greatest : Nat → Int64} {m_least : Nat → Int64} {m_period : Nat → Int32} {m_swing : Nat → Int64} {ms_thrown : Int32} : ym_ms_samples (ms_samples, m_a1, m_a2, m_b, m_deadTime, m_load, m_measure, m_before, m_past, m_gain, m_low, m_high, m_setpoint, m_integral, m_guard, m_share, m_mode, m_hand, m_follows, m_hasMaster, m_isStarved, m_held, m_sum, m_lastError, m_lastRate, m_goesOn, m_points, m_at, m_then, m_experiment, m_center, m_height, m_band, m_isUp, m_gone, m_risings, m_second, m_greatest, m_least, m_period, m_swing, ms_thrown) = ms_samples := rfl
theorem pj_m_a1 {ms_samples : Int32} {m_a1 : Nat → Int64} {m_a2 : Nat → Int64} {m_b : Nat → Int64} {m_deadTime : Nat → Int32} {m_load : Nat → Int32} {m_measure : Nat → Int64} {m_before : Nat → Int64} {m_past : Nat → Int64} {m_gain : Nat → Int64} {m_low : Nat → Int64} {m_high : Nat → Int64} {m_setpoint : Nat → Int64} {m_integral : Nat → Int64} {m_guard : Nat → Int32} {m_share : Nat → Int32} {m_mode : Nat → Int32} {m_hand : Nat → Int64} {m_follows : Nat → Int32} {m_hasMaster : Nat → Int32} {m_isStarved : Nat → Int32} {m_held : Nat → Int32} {m_sum : Nat → Int64} {m_lastError : Nat → Int64} {m_lastRate : Nat → Int64} {m_goesOn : Nat → Int32} {m_points : Nat → Int32} {m_at : Nat → Int64} {m_then : Nat → Int64} {m_experiment : Nat → Int32} {m_center : Nat → Int64} {m_height : Nat → Int32} {m_band : Nat → Int32} {m_isUp : Nat → Int32} {m_gone : Nat → Int32} {m_risings : Nat → Int32} {m_second : Nat → Int32} {m_greatest : Nat → Int64} {m_least : Nat → Int64} {m_period : Nat → Int32} {m_swing : Nat → Int64} {ms_thrown : Int32} : ym_m_a1 (ms_samples, m_a1, m_a2, m_b, m_deadTime, m_load, m_measure, m_before, m_past, m_gain, m_low, m_high, m_setpoint, m_integral, m_guard, m_share, m_mode, m_hand, m_follows, m_hasMaster, m_isStarved, m_held, m_sum, m_lastError, m_lastRate, m_goesOn, m_points, m_at, m_then, m_experiment, m_center, m_height, m_band, m_isUp, m_gone, m_risings, m_second, m_greatest, m_least, m_period, m_swing, ms_thrown) = m_a1 := rfl
theorem pj_m_a2 {ms_samples : Int32} {m_a1 : Nat → Int64} {m_a2 : Nat → Int64} {m_b : Nat → Int64} {m_deadTime : Nat → Int32} {m_load : Nat → Int32} {m_measure : Nat → Int64} {m_before : Nat → Int64} {m_past : Nat → Int64} {m_gain : Nat → Int64} {m_low : Nat → Int64} {m_high : Nat → Int64} {m_setpoint : Nat → Int64} {m_integral : Nat → Int64} {m_guard : Nat → Int32} {m_share : Nat → Int32} {m_mode : Nat → Int32} {m_hand : Nat → Int64} {m_follows : Nat → Int32} {m_hasMaster : Nat → Int32} {m_isStarved : Nat → Int32} {m_held : Nat → Int32} {m_sum : Nat → Int64} {m_lastError : Nat → Int64} {m_lastRate : Nat → Int64} {m_goesOn : Nat → Int32} {m_points : Nat → Int32} {m_at : Nat → Int64} {m_then : Nat → Int64} {m_experiment : Nat → Int32} {m_center : Nat → Int64} {m_height : Nat → Int32} {m_band : Nat → Int32} {m_isUp : Nat → Int32} {m_gone : Nat → Int32} {m_risings : Nat → Int32} {m_second : Nat → Int32} {m_greatest : Nat → Int64} {m_least : Nat → Int64} {m_period : Nat → Int32} {m_swing : Nat → Int64} {ms_thrown : Int32} : ym_m_a2 (ms_samples, m_a1, m_a2, m_b, m_deadTime, m_load, m_measure, m_before, m_past, m_gain, m_low, m_high, m_setpoint, m_integral, m_guard, m_share, m_mode, m_hand, m_follows, m_hasMaster, m_isStarved, m_held, m_sum, m_lastError, m_lastRate, m_goesOn, m_points, m_at, m_then, m_experiment, m_center, m_height, m_band, m_isUp, m_gone, m_risings, m_second, m_greatest, m_least, m_period, m_swing, ms_thrown) = m_a2 := rfl
theorem pj_m_b {ms_samples : Int32} {m_a1 : Nat → Int64} {m_a2 : Nat → Int64} {m_b : Nat → Int64} {m_deadTime : Nat → Int32} {m_load : Nat → Int32} {m_measure : Nat → Int64} {m_before : Nat → Int64} {m_past : Nat → Int64} {m_gain : Nat → Int64} {m_low : Nat → Int64} {m_high : Nat → Int64} {m_setpoint : Nat → Int64} {m_integral : Nat → Int64} {m_guard : Nat → Int32} {m_share : Nat → Int32} {m_mode : Nat → Int32} {m_hand : Nat → Int64} {m_follows : Nat → Int32} {m_hasMaster : Nat → Int32} {m_isStarved : Nat → Int32} {m_held : Nat → Int32} {m_sum : Nat → Int64} {m_lastError : Nat → Int64} {m_lastRate : Nat → Int64} {m_goesOn : Nat → Int32} {m_points : Nat → Int32} {m_at : Nat → Int64} {m_then : Nat → Int64} {m_experiment : Nat → Int32} {m_center : Nat → Int64} {m_height : Nat → Int32} {m_band : Nat → Int32} {m_isUp : Nat → Int32} {m_gone : Nat → Int32} {m_risings : Nat → Int32} {m_second : Nat → Int32} {m_greatest : Nat → Int64} {m_least : Nat → Int64} {m_period : Nat → Int32} {m_swing : Nat → Int64} {ms_thrown : Int32} : ym_m_b (ms_samples, m_a1, m_a2, m_b, m_deadTime, m_load, m_measure, m_before, m_past, m_gain, m_low, m_high, m_setpoint, m_integral, m_guard, m_share, m_mode, m_hand, m_follows, m_hasMaster, m_isStarved, m_held, m_sum, m_lastError, m_lastRate, m_goesOn, m_points, m_at, m_then, m_experiment, m_center, m_height, m_band, m_isUp, m_gone, m_risings, m_second, m_greatest, m_least, m_period, m_swing, ms_thrown) = m_b := rfl
theorem pj_m_deadTime {ms_samples : Int32} {m_a1 : Nat → Int64} {m_a2 : Nat → Int64} {m_b : Nat → Int64} {m_deadTime : Nat → Int32} {m_load : Nat → Int32} {m_measure : Nat → Int64} {m_before : Nat → Int64} {m_past : Nat → Int64} {m_gain : Nat → Int64} {m_low : Nat → Int64} {m_high : Nat → Int64} {m_setpoint : Nat → Int64} {m_integral : Nat → Int64} {m_guard : Nat → Int32} {m_share : Nat → Int32} {m_mode : Nat → Int32} {m_hand : Nat → Int64} {m_follows : Nat → Int32} {m_hasMaster : Nat → Int32} {m_isStarved : Nat → Int32} {m_held : Nat → Int32} {m_sum : Nat → Int64} {m_lastError : Nat → Int64} {m_lastRate : Nat → Int64} {m_goesOn : Nat → Int32} {m_points : Nat → Int32} {m_at : Nat → Int64} {m_then : Nat → Int64} {m_experiment : Nat → Int32} {m_center : Nat → Int64} {m_height : Nat → Int32} {m_band : Nat → Int32} {m_isUp : Nat → Int32} {m_gone : Nat → Int32} {m_risings : Nat → Int32} {m_second : Nat → Int32} {m_greatest : Nat → Int64} {m_least : Nat → Int64} {m_period : Nat → Int32} {m_swing : Nat → Int64} {ms_thrown : Int32} : ym_m_deadTime (ms_samples, m_a1, m_a2, m_b, m_deadTime, m_load, m_measure, m_before, m_past, m_gain, m_low, m_high, m_setpoint, m_integral, m_guard, m_share, m_mode, m_hand, m_follows, m_hasMaster, m_isStarved, m_held, m_sum, m_lastError, m_lastRate, m_goesOn, m_points, m_at, m_then, m_experiment, m_center, m_height, m_band, m_isUp, m_gone, m_risings, m_second, m_greatest, m_least, m_period, m_swing, ms_thrown) = m_deadTime := rfl
theorem pj_m_load {ms_samples : Int32} {m_a1 : Nat → Int64} {m_a2 : Nat → Int64} {m_b : Nat → Int64} {m_deadTime : Nat → Int32} {m_load : Nat → Int32} {m_measure : Nat → Int64} {m_before : Nat → Int64} {m_past : Nat → Int64} {m_gain : Nat → Int64} {m_low : Nat → Int64} {m_high : Nat → Int64} {m_setpoint : Nat → Int64} {m_integral : Nat → Int64} {m_guard : Nat → Int32} {m_share : Nat → Int32} {m_mode : Nat → Int32} {m_hand : Nat → Int64} {m_follows : Nat → Int32} {m_hasMaster : Nat → Int32} {m_isStarved : Nat → Int32} {m_held : Nat → Int32} {m_sum : Nat → Int64} {m_lastError : Nat → Int64} {m_lastRate : Nat → Int64} {m_goesOn : Nat → Int32} {m_points : Nat → Int32} {m_at : Nat → Int64} {m_then : Nat → Int64} {m_experiment : Nat → Int32} {m_center : Nat → Int64} {m_height : Nat → Int32} {m_band : Nat → Int32} {m_isUp : Nat → Int32} {m_gone : Nat → Int32} {m_risings : Nat → Int32} {m_second : Nat → Int32} {m_greatest : Nat → Int64} {m_least : Nat → Int64} {m_period : Nat → Int32} {m_swing : Nat → Int64} {ms_thrown : Int32} : ym_m_load (ms_samples, m_a1, m_a2, m_b, m_deadTime, m_load, m_measure, m_before, m_past, m_gain, m_low, m_high, m_setpoint, m_integral, m_guard, m_share, m_mode, m_hand, m_follows, m_hasMaster, m_isStarved, m_held, m_sum, m_lastError, m_lastRate, m_goesOn, m_points, m_at, m_then, m_experiment, m_center, m_height, m_band, m_isUp, m_gone, m_risings, m_second, m_greatest, m_least, m_period, m_swing, ms_thrown) = m_load := rfl
theorem pj_m_measure {ms_samples : Int32} {m_a1 : Nat → Int64} {m_a2 : Nat → Int64} {m_b : Nat → Int64} {m_deadTime : Nat → Int32} {m_load : Nat → Int32} {m_measure : Nat → Int64} {m_before : Nat → Int64} {m_past : Nat → Int64} {m_gain : Nat → Int64} {m_low : Nat → Int64} {m_high : Nat → Int64} {m_setpoint : Nat → Int64} {m_integral : Nat → Int64} {m_guard : Nat → Int32} {m_share : Nat → Int32} {m_mode : Nat → Int32} {m_hand : Nat → Int64} {m_follows : Nat → Int32} {m_hasMaster : Nat → Int32} {m_isStarved : Nat → Int32} {m_held : Nat → Int32} {m_sum : Nat → Int64} {m_lastError : Nat → Int64} {m_lastRate : Nat → Int64} {m_goesOn : Nat → Int32} {m_points : Nat → Int32} {m_at : Nat → Int64} {m_then : Nat → Int64} {m_experiment : Nat → Int32} {m_center : Nat → Int64} {m_height : Nat → Int32} {m_band : Nat → Int32} {m_isUp : Nat → Int32} {m_gone : Nat → Int32} {m_risings : Nat → Int32} {m_second : Nat → Int32} {m_greatest : Nat → Int64} {m_least : Nat → Int64} {m_period : Nat → Int32} {m_swing : Nat → Int64} {ms_thrown : Int32} : ym_m_measure (ms_samples, m_a1, m_a2, m_b, m_deadTime, m_load, m_measure, m_before, m_past, m_gain, m_low, m_high, m_setpoint, m_integral, m_guard, m_share, m_mode, m_hand, m_follows, m_hasMaster, m_isStarved, m_held, m_sum, m_lastError, m_lastRate, m_goesOn, m_points, m_at, m_then, m_experiment, m_center, m_height, m_band, m_isUp, m_gone, m_risings, m_second, m_greatest, m_least, m_period, m_swing, ms_thrown) = m_measure := rfl
theorem pj_m_before {ms_samples : Int32} {m_a1 : Nat → Int64} {m_a2 : Nat → Int64} {m_b : Nat → Int64} {m_deadTime : Nat → Int32} {m_load : Nat → Int32} {m_measure : Nat → Int64} {m_before : Nat → Int64} {m_past : Nat → Int64} {m_gain : Nat → Int64} {m_low : Nat → Int64} {m_high : Nat → Int64} {m_setpoint : Nat → Int64} {m_integral : Nat → Int64} {m_guard : Nat → Int32} {m_share : Nat → Int32} {m_mode : Nat → Int32} {m_hand : Nat → Int64} {m_follows : Nat → Int32} {m_hasMaster : Nat → Int32} {m_isStarved : Nat → Int32} {m_held : Nat → Int32} {m_sum : Nat → Int64} {m_lastError : Nat → Int64} {m_lastRate : Nat → Int64} {m_goesOn : Nat → Int32} {m_points : Nat → Int32} {m_at : Nat → Int64} {m_then : Nat → Int64} {m_experiment : Nat → Int32} {m_center : Nat → Int64} {m_height : Nat → Int32} {m_band : Nat → Int32} {m_isUp : Nat → Int32} {m_gone : Nat → Int32} {m_risings : Nat → Int32} {m_second : Nat → Int32} {m_greatest : Nat → Int64} {m_least : Nat → Int64} {m_period : Nat → Int32} {m_swing : Nat → Int64} {ms_thrown : Int32} : ym_m_before (ms_samples, m_a1, m_a2, m_b, m_deadTime, m_load, m_measure, m_before, m_past, m_gain, m_low, m_high, m_setpoint, m_integral, m_guard, m_share, m_mode, m_hand, m_follows, m_hasMaster, m_isStarved, m_held, m_sum, m_lastError, m_lastRate, m_goesOn, m_points, m_at, m_then, m_experiment, m_center, m_height, m_band, m_isUp, m_gone, m_risings, m_second, m_greatest, m_least, m_period, m_swing, ms_thrown) = m_before := rfl
theorem pj_m_past {ms_samples : Int32} {m_a1 : Nat → Int64} {m_a2 : Nat → Int64} {m_b : Nat → Int64} {m_deadTime : Nat → Int32} {m_load : Nat → Int32} {m_measure : Nat → Int64} {m_before : Nat → Int64} {m_past : Nat → Int64} {m_gain : Nat → Int64} {m_low : Nat → Int64} {m_high : Nat → Int64} {m_setpoint : Nat → Int64} {m_integral : Nat → Int64} {m_guard : Nat → Int32} {m_share : Nat → Int32} {m_mode : Nat → Int32} {m_hand : Nat → Int64} {m_follows : Nat → Int32} {m_hasMaster : Nat → Int32} {m_isStarved : Nat → Int32} {m_held : Nat → Int32} {m_sum : Nat → Int64} {m_lastError : Nat → Int64} {m_lastRate : Nat → Int64} {m_goesOn : Nat → Int32} {m_points : Nat → Int32} {m_at : Nat → Int64} {m_then : Nat → Int64} {m_experiment : Nat → Int32} {m_center : Nat → Int64} {m_height : Nat → Int32} {m_band : Nat → Int32} {m_isUp : Nat → Int32} {m_gone : Nat → Int32} {m_risings : Nat → Int32} {m_second : Nat → Int32} {m_greatest : Nat → Int64} {m_least : Nat → Int64} {m_period : Nat → Int32} {m_swing : Nat → Int64} {ms_thrown : Int32} : ym_m_past (ms_samples, m_a1, m_a2, m_b, m_deadTime, m_load, m_measure, m_before, m_past, m_gain, m_low, m_high, m_setpoint, m_integral, m_guard, m_share, m_mode, m_hand, m_follows, m_hasMaster, m_isStarved, m_held, m_sum, m_lastError, m_lastRate, m_goesOn, m_points, m_at, m_then, m_experiment, m_center, m_height, m_band, m_isUp, m_gone, m_risings, m_second, m_greatest, m_least, m_period, m_swing, ms_thrown) = m_past := rfl
theorem pj_m_gain {ms_samples : Int32} {m_a1 : Nat → Int64} {m_a2 : Nat → Int64} {m_b : Nat → Int64} {m_deadTime : Nat → Int32} {m_load : Nat → Int32} {m_measure : Nat → Int64} {m_before : Nat → Int64} {m_past : Nat → Int64} {m_gain : Nat → Int64} {m_low : Nat → Int64} {m_high : Nat → Int64} {m_setpoint : Nat → Int64} {m_integral : Nat → Int64} {m_guard : Nat → Int32} {m_share : Nat → Int32} {m_mode : Nat → Int32} {m_hand : Nat → Int64} {m_follows : Nat → Int32} {m_hasMaster : Nat → Int32} {m_isStarved : Nat → Int32} {m_held : Nat → Int32} {m_sum : Nat → Int64} {m_lastError : Nat → Int64} {m_lastRate : Nat → Int64} {m_goesOn : Nat → Int32} {m_points : Nat → Int32} {m_at : Nat → Int64} {m_then : Nat → Int64} {m_experiment : Nat → Int32} {m_center : Nat → Int64} {m_height : Nat → Int32} {m_band : Nat → Int32} {m_isUp : Nat → Int32} {m_gone : Nat → Int32} {m_risings : Nat → Int32} {m_second : Nat → Int32} {m_greatest : Nat → Int64} {m_least : Nat → Int64} {m_period : Nat → Int32} {m_swing : Nat → Int64} {ms_thrown : Int32} : ym_m_gain (ms_samples, m_a1, m_a2, m_b, m_deadTime, m_load, m_measure, m_before, m_past, m_gain, m_low, m_high, m_setpoint, m_integral, m_guard, m_share, m_mode, m_hand, m_follows, m_hasMaster, m_isStarved, m_held, m_sum, m_lastError, m_lastRate, m_goesOn, m_points, m_at, m_then, m_experiment, m_center, m_height, m_band, m_isUp, m_gone, m_risings, m_second, m_greatest, m_least, m_period, m_swing, ms_thrown) = m_gain := rfl
theorem pj_m_low {ms_samples : Int32} {m_a1 : Nat → Int64} {m_a2 : Nat → Int64} {m_b : Nat → Int64} {m_deadTime : Nat → Int32} {m_load : Nat → Int32} {m_measure : Nat → Int64} {m_before : Nat → Int64} {m_past : Nat → Int64} {m_gain : Nat → Int64} {m_low : Nat → Int64} {m_high : Nat → Int64} {m_setpoint : Nat → Int64} {m_integral : Nat → Int64} {m_guard : Nat → Int32} {m_share : Nat → Int32} {m_mode : Nat → Int32} {m_hand : Nat → Int64} {m_follows : Nat → Int32} {m_hasMaster : Nat → Int32} {m_isStarved : Nat → Int32} {m_held : Nat → Int32} {m_sum : Nat → Int64} {m_lastError : Nat → Int64} {m_lastRate : Nat → Int64} {m_goesOn : Nat → Int32} {m_points : Nat → Int32} {m_at : Nat → Int64} {m_then : Nat → Int64} {m_experiment : Nat → Int32} {m_center : Nat → Int64} {m_height : Nat → Int32} {m_band : Nat → Int32} {m_isUp : Nat → Int32} {m_gone : Nat → Int32} {m_risings : Nat → Int32} {m_second : Nat → Int32} {m_greatest : Nat → Int64} {m_least : Nat → Int64} {m_period : Nat → Int32} {m_swing : Nat → Int64} {ms_thrown : Int32} : ym_m_low (ms_samples, m_a1, m_a2, m_b, m_deadTime, m_load, m_measure, m_before, m_past, m_gain, m_low, m_high, m_setpoint, m_integral, m_guard, m_share, m_mode, m_hand, m_follows, m_hasMaster, m_isStarved, m_held, m_sum, m_lastError, m_lastRate, m_goesOn, m_points, m_at, m_then, m_experiment, m_center, m_height, m_band, m_isUp, m_gone, m_risings, m_second, m_greatest, m_least, m_period, m_swing, ms_thrown) = m_low := rfl
theorem pj_m_high {ms_samples : Int32} {m_a1 : Nat → Int64} {m_a2 : Nat → Int64} {m_b : Nat → Int64} {m_deadTime : Nat → Int32} {m_load : Nat → Int32} {m_measure : Nat → Int64} {m_before : Nat → Int64} {m_past : Nat → Int64} {m_gain : Nat → Int64} {m_low : Nat → Int64} {m_high : Nat → Int64} {m_setpoint : Nat → Int64} {m_integral : Nat → Int64} {m_guard : Nat → Int32} {m_share : Nat → Int32} {m_mode : Nat → Int32} {m_hand : Nat → Int64} {m_follows : Nat → Int32} {m_hasMaster : Nat → Int32} {m_isStarved : Nat → Int32} {m_held : Nat → Int32} {m_sum : Nat → Int64} {m_lastError : Nat → Int64} {m_lastRate : Nat → Int64} {m_goesOn : Nat → Int32} {m_points : Nat → Int32} {m_at : Nat → Int64} {m_then : Nat → Int64} {m_experiment : Nat → Int32} {m_center : Nat → Int64} {m_height : Nat → Int32} {m_band : Nat → Int32} {m_isUp : Nat → Int32} {m_gone : Nat → Int32} {m_risings : Nat → Int32} {m_second : Nat → Int32} {m_greatest : Nat → Int64} {m_least : Nat → Int64} {m_period : Nat → Int32} {m_swing : Nat → Int64} {ms_thrown : Int32} : ym_m_high (ms_samples, m_a1, m_a2, m_b, m_deadTime, m_load, m_measure, m_before, m_past, m_gain, m_low, m_high, m_setpoint, m_integral, m_guard, m_share, m_mode, m_hand, m_follows, m_hasMaster, m_isStarved, m_held, m_sum, m_lastError, m_lastRate, m_goesOn, m_points, m_at, m_then, m_experiment, m_center, m_height, m_band, m_isUp, m_gone, m_risings, m_second, m_greatest, m_least, m_period, m_swing, ms_thrown) = m_high := rfl
theorem pj_m_setpoint {ms_samples : Int32} {m_a1 : Nat → Int64} {m_a2 : Nat → Int64} {m_b : Nat → Int64} {m_deadTime : Nat → Int32} {m_load : Nat → Int32} {m_measure : Nat → Int64} {m_before : Nat → Int64} {m_past : Nat → Int64} {m_gain : Nat → Int64} {m_low : Nat → Int64} {m_high : Nat → Int64} {m_setpoint : Nat → Int64} {m_integral : Nat → Int64} {m_guard : Nat → Int32} {m_share : Nat → Int32} {m_mode : Nat → Int32} {m_hand : Nat → Int64} {m_follows : Nat → Int32} {m_hasMaster : Nat → Int32} {m_isStarved : Nat → Int32} {m_held : Nat → Int32} {m_sum : Nat → Int64} {m_lastError : Nat → Int64} {m_lastRate : Nat → Int64} {m_goesOn : Nat → Int32} {m_points : Nat → Int32} {m_at : Nat → Int64} {m_then : Nat → Int64} {m_experiment : Nat → Int32} {m_center : Nat → Int64} {m_height : Nat → Int32} {m_band : Nat → Int32} {m_isUp : Nat → Int32} {m_gone : Nat → Int32} {m_risings : Nat → Int32} {m_second : Nat → Int32} {m_greatest : Nat → Int64} {m_least : Nat → Int64} {m_period : Nat → Int32} {m_swing : Nat → Int64} {ms_thrown : Int32} : ym_m_setpoint (ms_samples, m_a1, m_a2, m_b, m_deadTime, m_load, m_measure, m_before, m_past, m_gain, m_low, m_high, m_setpoint, m_integral, m_guard, m_share, m_mode, m_hand, m_follows, m_hasMaster, m_isStarved, m_held, m_sum, m_lastError, m_lastRate, m_goesOn, m_points, m_at, m_then, m_experiment, m_center, m_height, m_band, m_isUp, m_gone, m_risings, m_second, m_greatest, m_least, m_period, m_swing, ms_thrown) = m_setpoint := rfl
theorem pj_m_integral {ms_samples : Int32} {m_a1 : Nat → Int64} {m_a2 : Nat → Int64} {m_b : Nat → Int64} {m_deadTime : Nat → Int32} {m_load : Nat → Int32} {m_measure : Nat → Int64} {m_before : Nat → Int64} {m_past : Nat → Int64} {m_gain : Nat → Int64} {m_low : Nat → Int64} {m_high : Nat → Int64} {m_setpoint : Nat → Int64} {m_integral : Nat → Int64} {m_guard : Nat → Int32} {m_share : Nat → Int32} {m_mode : Nat → Int32} {m_hand : Nat → Int64} {m_follows : Nat → Int32} {m_hasMaster : Nat → Int32} {m_isStarved : Nat → Int32} {m_held : Nat → Int32} {m_sum : Nat → Int64} {m_lastError : Nat → Int64} {m_lastRate : Nat → Int64} {m_goesOn : Nat → Int32} {m_points : Nat → Int32} {m_at : Nat → Int64} {m_then : Nat → Int64} {m_experiment : Nat → Int32} {m_center : Nat → Int64} {m_height : Nat → Int32} {m_band : Nat → Int32} {m_isUp : Nat → Int32} {m_gone : Nat → Int32} {m_risings : Nat → Int32} {m_second : Nat → Int32} {m_greatest : Nat → Int64} {m_least : Nat → Int64} {m_period : Nat → Int32} {m_swing : Nat → Int64} {ms_thrown : Int32} : ym_m_integral (ms_samples, m_a1, m_a2, m_b, m_deadTime, m_load, m_measure, m_before, m_past, m_gain, m_low, m_high, m_setpoint, m_integral, m_guard, m_share, m_mode, m_hand, m_follows, m_hasMaster, m_isStarved, m_held, m_sum, m_lastError, m_lastRate, m_goesOn, m_points, m_at, m_then, m_experiment, m_center, m_height, m_band, m_isUp, m_gone, m_risings, m_second, m_greatest, m_least, m_period, m_swing, ms_thrown) = m_integral := rfl
theorem pj_m_guard {ms_samples : Int32} {m_a1 : Nat → Int64} {m_a2 : Nat → Int64} {m_b : Nat → Int64} {m_deadTime : Nat → Int32} {m_load : Nat → Int32} {m_measure : Nat → Int64} {m_before : Nat → Int64} {m_past : Nat → Int64} {m_gain : Nat → Int64} {m_low : Nat → Int64} {m_high : Nat → Int64} {m_setpoint : Nat → Int64} {m_integral : Nat → Int64} {m_guard : Nat → Int32} {m_share : Nat → Int32} {m_mode : Nat → Int32} {m_hand : Nat → Int64} {m_follows : Nat → Int32} {m_hasMaster : Nat → Int32} {m_isStarved : Nat → Int32} {m_held : Nat → Int32} {m_sum : Nat → Int64} {m_lastError : Nat → Int64} {m_lastRate : Nat → Int64} {m_goesOn : Nat → Int32} {m_points : Nat → Int32} {m_at : Nat → Int64} {m_then : Nat → Int64} {m_experiment : Nat → Int32} {m_center : Nat → Int64} {m_height : Nat → Int32} {m_band : Nat → Int32} {m_isUp : Nat → Int32} {m_gone : Nat → Int32} {m_risings : Nat → Int32} {m_second : Nat → Int32} {m_greatest : Nat → Int64} {m_least : Nat → Int64} {m_period : Nat → Int32} {m_swing : Nat → Int64} {ms_thrown : Int32} : ym_m_guard (ms_samples, m_a1, m_a2, m_b, m_deadTime, m_load, m_measure, m_before, m_past, m_gain, m_low, m_high, m_setpoint, m_integral, m_guard, m_share, m_mode, m_hand, m_follows, m_hasMaster, m_isStarved, m_held, m_sum, m_lastError, m_lastRate, m_goesOn, m_points, m_at, m_then, m_experiment, m_center, m_height, m_band, m_isUp, m_gone, m_risings, m_second, m_greatest, m_least, m_period, m_swing, ms_thrown) = m_guard := rfl
theorem pj_m_share {ms_samples : Int32} {m_a1 : Nat → Int64} {m_a2 : Nat → Int64} {m_b : Nat → Int64} {m_deadTime : Nat → Int32} {m_load : Nat → Int32} {m_measure : Nat → Int64} {m_before : Nat → Int64} {m_past : Nat → Int64} {m_gain : Nat → Int64} {m_low : Nat → Int64} {m_high : Nat → Int64} {m_setpoint : Nat → Int64} {m_integral : Nat → Int64} {m_guard : Nat → Int32} {m_share : Nat → Int32} {m_mode : Nat → Int32} {m_hand : Nat → Int64} {m_follows : Nat → Int32} {m_hasMaster : Nat → Int32} {m_isStarved : Nat → Int32} {m_held : Nat → Int32} {m_sum : Nat → Int64} {m_lastError : Nat → Int64} {m_lastRate : Nat → Int64} {m_goesOn : Nat → Int32} {m_points : Nat → Int32} {m_at : Nat → Int64} {m_then : Nat → Int64} {m_experiment : Nat → Int32} {m_center : Nat → Int64} {m_height : Nat → Int32} {m_band : Nat → Int32} {m_isUp : Nat → Int32} {m_gone : Nat → Int32} {m_risings : Nat → Int32} {m_second : Nat → Int32} {m_greatest : Nat → Int64} {m_least : Nat → Int64} {m_period : Nat → Int32} {m_swing : Nat → Int64} {ms_thrown : Int32} : ym_m_share (ms_samples, m_a1, m_a2, m_b, m_deadTime, m_load, m_measure, m_before, m_past, m_gain, m_low, m_high, m_setpoint, m_integral, m_guard, m_share, m_mode, m_hand, m_follows, m_hasMaster, m_isStarved, m_held, m_sum, m_lastError, m_lastRate, m_goesOn, m_points, m_at, m_then, m_experiment, m_center, m_height, m_band, m_isUp, m_gone, m_risings, m_second, m_greatest, m_least, m_period, m_swing, ms_thrown) = m_share := rfl
theorem pj_m_mode {ms_samples : Int32} {m_a1 : Nat → Int64} {m_a2 : Nat → Int64} {m_b : Nat → Int64} {m_deadTime : Nat → Int32} {m_load : Nat → Int32} {m_measure : Nat → Int64} {m_before : Nat → Int64} {m_past : Nat → Int64} {m_gain : Nat → Int64} {m_low : Nat → Int64} {m_high : Nat → Int64} {m_setpoint : Nat → Int64} {m_integral : Nat → Int64} {m_guard : Nat → Int32} {m_share : Nat → Int32} {m_mode : Nat → Int32} {m_hand : Nat → Int64} {m_follows : Nat → Int32} {m_hasMaster : Nat → Int32} {m_isStarved : Nat → Int32} {m_held : Nat → Int32} {m_sum : Nat → Int64} {m_lastError : Nat → Int64} {m_lastRate : Nat → Int64} {m_goesOn : Nat → Int32} {m_points : Nat → Int32} {m_at : Nat → Int64} {m_then : Nat → Int64} {m_experiment : Nat → Int32} {m_center : Nat → Int64} {m_height : Nat → Int32} {m_band : Nat → Int32} {m_isUp : Nat → Int32} {m_gone : Nat → Int32} {m_risings : Nat → Int32} {m_second : Nat → Int32} {m_greatest : Nat → Int64} {m_least : Nat → Int64} {m_period : Nat → Int32} {m_swing : Nat → Int64} {ms_thrown : Int32} : ym_m_mode (ms_samples, m_a1, m_a2, m_b, m_deadTime, m_load, m_measure, m_before, m_past, m_gain, m_low, m_high, m_setpoint, m_integral, m_guard, m_share, m_mode, m_hand, m_follows, m_hasMaster, m_isStarved, m_held, m_sum, m_lastError, m_lastRate, m_goesOn, m_points, m_at, m_then, m_experiment, m_center, m_height, m_band, m_isUp, m_gone, m_risings, m_second, m_greatest, m_least, m_period, m_swing, ms_thrown) = m_mode := rfl
theorem pj_m_hand {ms_samples : Int32} {m_a1 : Nat → Int64} {m_a2 : Nat → Int64} {m_b : Nat → Int64} {m_deadTime : Nat → Int32} {m_load : Nat → Int32} {m_measure : Nat → Int64} {m_before : Nat → Int64} {m_past : Nat → Int64} {m_gain : Nat → Int64} {m_low : Nat → Int64} {m_high : Nat → Int64} {m_setpoint : Nat → Int64} {m_integral : Nat → Int64} {m_guard : Nat → Int32} {m_share : Nat → Int32} {m_mode : Nat → Int32} {m_hand : Nat → Int64} {m_follows : Nat → Int32} {m_hasMaster : Nat → Int32} {m_isStarved : Nat → Int32} {m_held : Nat → Int32} {m_sum : Nat → Int64} {m_lastError : Nat → Int64} {m_lastRate : Nat → Int64} {m_goesOn : Nat → Int32} {m_points : Nat → Int32} {m_at : Nat → Int64} {m_then : Nat → Int64} {m_experiment : Nat → Int32} {m_center : Nat → Int64} {m_height : Nat → Int32} {m_band : Nat → Int32} {m_isUp : Nat → Int32} {m_gone : Nat → Int32} {m_risings : Nat → Int32} {m_second : Nat → Int32} {m_greatest : Nat → Int64} {m_least : Nat → Int64} {m_period : Nat → Int32} {m_swing : Nat → Int64} {ms_thrown : Int32} : ym_m_hand (ms_samples, m_a1, m_a2, m_b, m_deadTime, m_load, m_measure, m_before, m_past, m_gain, m_low, m_high, m_setpoint, m_integral, m_guard, m_share, m_mode, m_hand, m_follows, m_hasMaster, m_isStarved, m_held, m_sum, m_lastError, m_lastRate, m_goesOn, m_points, m_at, m_then, m_experiment, m_center, m_height, m_band, m_isUp, m_gone, m_risings, m_second, m_greatest, m_least, m_period, m_swing, ms_thrown) = m_hand := rfl
theorem pj_m_follows {ms_samples : Int32} {m_a1 : Nat → Int64} {m_a2 : Nat → Int64} {m_b : Nat → Int64} {m_deadTime : Nat → Int32} {m_load : Nat → Int32} {m_measure : Nat → Int64} {m_before : Nat → Int64} {m_past : Nat → Int64} {m_gain : Nat → Int64} {m_low : Nat → Int64} {m_high : Nat → Int64} {m_setpoint : Nat → Int64} {m_integral : Nat → Int64} {m_guard : Nat → Int32} {m_share : Nat → Int32} {m_mode : Nat → Int32} {m_hand : Nat → Int64} {m_follows : Nat → Int32} {m_hasMaster : Nat → Int32} {m_isStarved : Nat → Int32} {m_held : Nat → Int32} {m_sum : Nat → Int64} {m_lastError : Nat → Int64} {m_lastRate : Nat → Int64} {m_goesOn : Nat → Int32} {m_points : Nat → Int32} {m_at : Nat → Int64} {m_then : Nat → Int64} {m_experiment : Nat → Int32} {m_center : Nat → Int64} {m_height : Nat → Int32} {m_band : Nat → Int32} {m_isUp : Nat → Int32} {m_gone : Nat → Int32} {m_risings : Nat → Int32} {m_second : Nat → Int32} {m_greatest : Nat → Int64} {m_least : Nat → Int64} {m_period : Nat → Int32} {m_swing : Nat → Int64} {ms_thrown : Int32} : ym_m_follows (ms_samples, m_a1, m_a2, m_b, m_deadTime, m_load, m_measure, m_before, m_past, m_gain, m_low, m_high, m_setpoint, m_integral, m_guard, m_share, m_mode, m_hand, m_follows, m_hasMaster, m_isStarved, m_held, m_sum, m_lastError, m_lastRate, m_goesOn, m_points, m_at, m_then, m_experiment, m_center, m_height, m_band, m_isUp, m_gone, m_risings, m_second, m_greatest, m_least, m_period, m_swing, ms_thrown) = m_follows := rfl
theorem pj_m_hasMaster {ms_samples : Int32} {m_a1 : Nat → Int64} {m_a2 : Nat → Int64} {m_b : Nat → Int64} {m_deadTime : Nat → Int32} {m_load : Nat → Int32} {m_measure : Nat → Int64} {m_before : Nat → Int64} {m_past : Nat → Int64} {m_gain : Nat → Int64} {m_low : Nat → Int64} {m_high : Nat → Int64} {m_setpoint : Nat → Int64} {m_integral : Nat → Int64} {m_guard : Nat → Int32} {m_share : Nat → Int32} {m_mode : Nat → Int32} {m_hand : Nat → Int64} {m_follows : Nat → Int32} {m_hasMaster : Nat → Int32} {m_isStarved : Nat → Int32} {m_held : Nat → Int32} {m_sum : Nat → Int64} {m_lastError : Nat → Int64} {m_lastRate : Nat → Int64} {m_goesOn : Nat → Int32} {m_points : Nat → Int32} {m_at : Nat → Int64} {m_then : Nat → Int64} {m_experiment : Nat → Int32} {m_center : Nat → Int64} {m_height : Nat → Int32} {m_band : Nat → Int32} {m_isUp : Nat → Int32} {m_gone : Nat → Int32} {m_risings : Nat → Int32} {m_second : Nat → Int32} {m_greatest : Nat → Int64} {m_least : Nat → Int64} {m_period : Nat → Int32} {m_swing : Nat → Int64} {ms_thrown : Int32} : ym_m_hasMaster (ms_samples, m_a1, m_a2, m_b, m_deadTime, m_load, m_measure, m_before, m_past, m_gain, m_low, m_high, m_setpoint, m_integral, m_guard, m_share, m_mode, m_hand, m_follows, m_hasMaster, m_isStarved, m_held, m_sum, m_lastError, m_lastRate, m_goesOn, m_points, m_at, m_then, m_experiment, m_center, m_height, m_band, m_isUp, m_gone, m_risings, m_second, m_greatest, m_least, m_period, m_swing, ms_thrown) = m_hasMaster := rfl
theorem pj_m_isStarved {ms_samples : Int32} {m_a1 : Nat → Int64} {m_a2 : Nat → Int64} {m_b : Nat → Int64} {m_deadTime : Nat → Int32} {m_load : Nat → Int32} {m_measure : Nat → Int64} {m_before : Nat → Int64} {m_past : Nat → Int64} {m_gain : Nat → Int64} {m_low : Nat → Int64} {m_high : Nat → Int64} {m_setpoint : Nat → Int64} {m_integral : Nat → Int64} {m_guard : Nat → Int32} {m_share : Nat → Int32} {m_mode : Nat → Int32} {m_hand : Nat → Int64} {m_follows : Nat → Int32} {m_hasMaster : Nat → Int32} {m_isStarved : Nat → Int32} {m_held : Nat → Int32} {m_sum : Nat → Int64} {m_lastError : Nat → Int64} {m_lastRate : Nat → Int64} {m_goesOn : Nat → Int32} {m_points : Nat → Int32} {m_at : Nat → Int64} {m_then : Nat → Int64} {m_experiment : Nat → Int32} {m_center : Nat → Int64} {m_height : Nat → Int32} {m_band : Nat → Int32} {m_isUp : Nat → Int32} {m_gone : Nat → Int32} {m_risings : Nat → Int32} {m_second : Nat → Int32} {m_greatest : Nat → Int64} {m_least : Nat → Int64} {m_period : Nat → Int32} {m_swing : Nat → Int64} {ms_thrown : Int32} : ym_m_isStarved (ms_samples, m_a1, m_a2, m_b, m_deadTime, m_load, m_measure, m_before, m_past, m_gain, m_low, m_high, m_setpoint, m_integral, m_guard, m_share, m_mode, m_hand, m_follows, m_hasMaster, m_isStarved, m_held, m_sum, m_lastError, m_lastRate, m_goesOn, m_points, m_at, m_then, m_experiment, m_center, m_height, m_band, m_isUp, m_gone, m_risings, m_second, m_greatest, m_least, m_period, m_swing, ms_thrown) = m_isStarved := rfl
theorem pj_m_held {ms_samples : Int32} {m_a1 : Nat → Int64} {m_a2 : Nat → Int64} {m_b : Nat → Int64} {m_deadTime : Nat → Int32} {m_load : Nat → Int32} {m_measure : Nat → Int64} {m_before : Nat → Int64} {m_past : Nat → Int64} {m_gain : Nat → Int64} {m_low : Nat → Int64} {m_high : Nat → Int64} {m_setpoint : Nat → Int64} {m_integral : Nat → Int64} {m_guard : Nat → Int32} {m_share : Nat → Int32} {m_mode : Nat → Int32} {m_hand : Nat → Int64} {m_follows : Nat → Int32} {m_hasMaster : Nat → Int32} {m_isStarved : Nat → Int32} {m_held : Nat → Int32} {m_sum : Nat → Int64} {m_lastError : Nat → Int64} {m_lastRate : Nat → Int64} {m_goesOn : Nat → Int32} {m_points : Nat → Int32} {m_at : Nat → Int64} {m_then : Nat → Int64} {m_experiment : Nat → Int32} {m_center : Nat → Int64} {m_height : Nat → Int32} {m_band : Nat → Int32} {m_isUp : Nat → Int32} {m_gone : Nat → Int32} {m_risings : Nat → Int32} {m_second : Nat → Int32} {m_greatest : Nat → Int64} {m_least : Nat → Int64} {m_period : Nat → Int32} {m_swing : Nat → Int64} {ms_thrown : Int32} : ym_m_held (ms_samples, m_a1, m_a2, m_b, m_deadTime, m_load, m_measure, m_before, m_past, m_gain, m_low, m_high, m_setpoint, m_integral, m_guard, m_share, m_mode, m_hand, m_follows, m_hasMaster, m_isStarved, m_held, m_sum, m_lastError, m_lastRate, m_goesOn, m_points, m_at, m_then, m_experiment, m_center, m_height, m_band, m_isUp, m_gone, m_risings, m_second, m_greatest, m_least, m_period, m_swing, ms_thrown) = m_held := rfl
theorem pj_m_sum {ms_samples : Int32} {m_a1 : Nat → Int64} {m_a2 : Nat → Int64} {m_b : Nat → Int64} {m_deadTime : Nat → Int32} {m_load : Nat → Int32} {m_measure : Nat → Int64} {m_before : Nat → Int64} {m_past : Nat → Int64} {m_gain : Nat → Int64} {m_low : Nat → Int64} {m_high : Nat → Int64} {m_setpoint : Nat → Int64} {m_integral : Nat → Int64} {m_guard : Nat → Int32} {m_share : Nat → Int32} {m_mode : Nat → Int32} {m_hand : Nat → Int64} {m_follows : Nat → Int32} {m_hasMaster : Nat → Int32} {m_isStarved : Nat → Int32} {m_held : Nat → Int32} {m_sum : Nat → Int64} {m_lastError : Nat → Int64} {m_lastRate : Nat → Int64} {m_goesOn : Nat → Int32} {m_points : Nat → Int32} {m_at : Nat → Int64} {m_then : Nat → Int64} {m_experiment : Nat → Int32} {m_center : Nat → Int64} {m_height : Nat → Int32} {m_band : Nat → Int32} {m_isUp : Nat → Int32} {m_gone : Nat → Int32} {m_risings : Nat → Int32} {m_second : Nat → Int32} {m_greatest : Nat → Int64} {m_least : Nat → Int64} {m_period : Nat → Int32} {m_swing : Nat → Int64} {ms_thrown : Int32} : ym_m_sum (ms_samples, m_a1, m_a2, m_b, m_deadTime, m_load, m_measure, m_before, m_past, m_gain, m_low, m_high, m_setpoint, m_integral, m_guard, m_share, m_mode, m_hand, m_follows, m_hasMaster, m_isStarved, m_held, m_sum, m_lastError, m_lastRate, m_goesOn, m_points, m_at, m_then, m_experiment, m_center, m_height, m_band, m_isUp, m_gone, m_risings, m_second, m_greatest, m_least, m_period, m_swing, ms_thrown) = m_sum := rfl
theorem pj_m_lastError {ms_samples : Int32} {m_a1 : Nat → Int64} {m_a2 : Nat → Int64} {m_b : Nat → Int64} {m_deadTime : Nat → Int32} {m_load : Nat → Int32} {m_measure : Nat → Int64} {m_before : Nat → Int64} {m_past : Nat → Int64} {m_gain : Nat → Int64} {m_low : Nat → Int64} {m_high : Nat → Int64} {m_setpoint : Nat → Int64} {m_integral : Nat → Int64} {m_guard : Nat → Int32} {m_share : Nat → Int32} {m_mode : Nat → Int32} {m_hand : Nat → Int64} {m_follows : Nat → Int32} {m_hasMaster : Nat → Int32} {m_isStarved : Nat → Int32} {m_held : Nat → Int32} {m_sum : Nat → Int64} {m_lastError : Nat → Int64} {m_lastRate : Nat → Int64} {m_goesOn : Nat → Int32} {m_points : Nat → Int32} {m_at : Nat → Int64} {m_then : Nat → Int64} {m_experiment : Nat → Int32} {m_center : Nat → Int64} {m_height : Nat → Int32} {m_band : Nat → Int32} {m_isUp : Nat → Int32} {m_gone : Nat → Int32} {m_risings : Nat → Int32} {m_second : Nat → Int32} {m_greatest : Nat → Int64} {m_least : Nat → Int64} {m_period : Nat → Int32} {m_swing : Nat → Int64} {ms_thrown : Int32} : ym_m_lastError (ms_samples, m_a1, m_a2, m_b, m_deadTime, m_load, m_measure, m_before, m_past, m_gain, m_low, m_high, m_setpoint, m_integral, m_guard, m_share, m_mode, m_hand, m_follows, m_hasMaster, m_isStarved, m_held, m_sum, m_lastError, m_lastRate, m_goesOn, m_points, m_at, m_then, m_experiment, m_center, m_height, m_band, m_isUp, m_gone, m_risings, m_second, m_greatest, m_least, m_period, m_swing, ms_thrown) = m_lastError := rfl
theorem pj_m_lastRate {ms_samples : Int32} {m_a1 : Nat → Int64} {m_a2 : Nat → Int64} {m_b : Nat → Int64} {m_deadTime : Nat → Int32} {m_load : Nat → Int32} {m_measure : Nat → Int64} {m_before : Nat → Int64} {m_past : Nat → Int64} {m_gain : Nat → Int64} {m_low : Nat → Int64} {m_high : Nat → Int64} {m_setpoint : Nat → Int64} {m_integral : Nat → Int64} {m_guard : Nat → Int32} {m_share : Nat → Int32} {m_mode : Nat → Int32} {m_hand : Nat → Int64} {m_follows : Nat → Int32} {m_hasMaster : Nat → Int32} {m_isStarved : Nat → Int32} {m_held : Nat → Int32} {m_sum : Nat → Int64} {m_lastError : Nat → Int64} {m_lastRate : Nat → Int64} {m_goesOn : Nat → Int32} {m_points : Nat → Int32} {m_at : Nat → Int64} {m_then : Nat → Int64} {m_experiment : Nat → Int32} {m_center : Nat → Int64} {m_height : Nat → Int32} {m_band : Nat → Int32} {m_isUp : Nat → Int32} {m_gone : Nat → Int32} {m_risings : Nat → Int32} {m_second : Nat → Int32} {m_greatest : Nat → Int64} {m_least : Nat → Int64} {m_period : Nat → Int32} {m_swing : Nat → Int64} {ms_thrown : Int32} : ym_m_lastRate (ms_samples, m_a1, m_a2, m_b, m_deadTime, m_load, m_measure, m_before, m_past, m_gain, m_low, m_high, m_setpoint, m_integral, m_guard, m_share, m_mode, m_hand, m_follows, m_hasMaster, m_isStarved, m_held, m_sum, m_lastError, m_lastRate, m_goesOn, m_points, m_at, m_then, m_experiment, m_center, m_height, m_band, m_isUp, m_gone, m_risings, m_second, m_greatest, m_least, m_period, m_swing, ms_thrown) = m_lastRate := rfl
theorem pj_m_goesOn {ms_samples : Int32} {m_a1 : Nat → Int64} {m_a2 : Nat → Int64} {m_b : Nat → Int64} {m_deadTime : Nat → Int32} {m_load : Nat → Int32} {m_measure : Nat → Int64} {m_before : Nat → Int64} {m_past : Nat → Int64} {m_gain : Nat → Int64} {m_low : Nat → Int64} {m_high : Nat → Int64} {m_setpoint : Nat → Int64} {m_integral : Nat → Int64} {m_guard : Nat → Int32} {m_share : Nat → Int32} {m_mode : Nat → Int32} {m_hand : Nat → Int64} {m_follows : Nat → Int32} {m_hasMaster : Nat → Int32} {m_isStarved : Nat → Int32} {m_held : Nat → Int32} {m_sum : Nat → Int64} {m_lastError : Nat → Int64} {m_lastRate : Nat → Int64} {m_goesOn : Nat → Int32} {m_points : Nat → Int32} {m_at : Nat → Int64} {m_then : Nat → Int64} {m_experiment : Nat → Int32} {m_center : Nat → Int64} {m_height : Nat → Int32} {m_band : Nat → Int32} {m_isUp : Nat → Int32} {m_gone : Nat → Int32} {m_risings : Nat → Int32} {m_second : Nat → Int32} {m_greatest : Nat → Int64} {m_least : Nat → Int64} {m_period : Nat → Int32} {m_swing : Nat → Int64} {ms_thrown : Int32} : ym_m_goesOn (ms_samples, m_a1, m_a2, m_b, m_deadTime, m_load, m_measure, m_before, m_past, m_gain, m_low, m_high, m_setpoint, m_integral, m_guard, m_share, m_mode, m_hand, m_follows, m_hasMaster, m_isStarved, m_held, m_sum, m_lastError, m_lastRate, m_goesOn, m_points, m_at, m_then, m_experiment, m_center, m_height, m_band, m_isUp, m_gone, m_risings, m_second, m_greatest, m_least, m_period, m_swing, ms_thrown) = m_goesOn := rfl
theorem pj_m_points {ms_samples : Int32} {m_a1 : Nat → Int64} {m_a2 : Nat → Int64} {m_b : Nat → Int64} {m_deadTime : Nat → Int32} {m_load : Nat → Int32} {m_measure : Nat → Int64} {m_before : Nat → Int64} {m_past : Nat → Int64} {m_gain : Nat → Int64} {m_low : Nat → Int64} {m_high : Nat → Int64} {m_setpoint : Nat → Int64} {m_integral : Nat → Int64} {m_guard : Nat → Int32} {m_share : Nat → Int32} {m_mode : Nat → Int32} {m_hand : Nat → Int64} {m_follows : Nat → Int32} {m_hasMaster : Nat → Int32} {m_isStarved : Nat → Int32} {m_held : Nat → Int32} {m_sum : Nat → Int64} {m_lastError : Nat → Int64} {m_lastRate : Nat → Int64} {m_goesOn : Nat → Int32} {m_points : Nat → Int32} {m_at : Nat → Int64} {m_then : Nat → Int64} {m_experiment : Nat → Int32} {m_center : Nat → Int64} {m_height : Nat → Int32} {m_band : Nat → Int32} {m_isUp : Nat → Int32} {m_gone : Nat → Int32} {m_risings : Nat → Int32} {m_second : Nat → Int32} {m_greatest : Nat → Int64} {m_least : Nat → Int64} {m_period : Nat → Int32} {m_swing : Nat → Int64} {ms_thrown : Int32} : ym_m_points (ms_samples, m_a1, m_a2, m_b, m_deadTime, m_load, m_measure, m_before, m_past, m_gain, m_low, m_high, m_setpoint, m_integral, m_guard, m_share, m_mode, m_hand, m_follows, m_hasMaster, m_isStarved, m_held, m_sum, m_lastError, m_lastRate, m_goesOn, m_points, m_at, m_then, m_experiment, m_center, m_height, m_band, m_isUp, m_gone, m_risings, m_second, m_greatest, m_least, m_period, m_swing, ms_thrown) = m_points := rfl
theorem pj_m_at {ms_samples : Int32} {m_a1 : Nat → Int64} {m_a2 : Nat → Int64} {m_b : Nat → Int64} {m_deadTime : Nat → Int32} {m_load : Nat → Int32} {m_measure : Nat → Int64} {m_before : Nat → Int64} {m_past : Nat → Int64} {m_gain : Nat → Int64} {m_low : Nat → Int64} {m_high : Nat → Int64} {m_setpoint : Nat → Int64} {m_integral : Nat → Int64} {m_guard : Nat → Int32} {m_share : Nat → Int32} {m_mode : Nat → Int32} {m_hand : Nat → Int64} {m_follows : Nat → Int32} {m_hasMaster : Nat → Int32} {m_isStarved : Nat → Int32} {m_held : Nat → Int32} {m_sum : Nat → Int64} {m_lastError : Nat → Int64} {m_lastRate : Nat → Int64} {m_goesOn : Nat → Int32} {m_points : Nat → Int32} {m_at : Nat → Int64} {m_then : Nat → Int64} {m_experiment : Nat → Int32} {m_center : Nat → Int64} {m_height : Nat → Int32} {m_band : Nat → Int32} {m_isUp : Nat → Int32} {m_gone : Nat → Int32} {m_risings : Nat → Int32} {m_second : Nat → Int32} {m_greatest : Nat → Int64} {m_least : Nat → Int64} {m_period : Nat → Int32} {m_swing : Nat → Int64} {ms_thrown : Int32} : ym_m_at (ms_samples, m_a1, m_a2, m_b, m_deadTime, m_load, m_measure, m_before, m_past, m_gain, m_low, m_high, m_setpoint, m_integral, m_guard, m_share, m_mode, m_hand, m_follows, m_hasMaster, m_isStarved, m_held, m_sum, m_lastError, m_lastRate, m_goesOn, m_points, m_at, m_then, m_experiment, m_center, m_height, m_band, m_isUp, m_gone, m_risings, m_second, m_greatest, m_least, m_period, m_swing, ms_thrown) = m_at := rfl
theorem pj_m_then {ms_samples : Int32} {m_a1 : Nat → Int64} {m_a2 : Nat → Int64} {m_b : Nat → Int64} {m_deadTime : Nat → Int32} {m_load : Nat → Int32} {m_measure : Nat → Int64} {m_before : Nat → Int64} {m_past : Nat → Int64} {m_gain : Nat → Int64} {m_low : Nat → Int64} {m_high : Nat → Int64} {m_setpoint : Nat → Int64} {m_integral : Nat → Int64} {m_guard : Nat → Int32} {m_share : Nat → Int32} {m_mode : Nat → Int32} {m_hand : Nat → Int64} {m_follows : Nat → Int32} {m_hasMaster : Nat → Int32} {m_isStarved : Nat → Int32} {m_held : Nat → Int32} {m_sum : Nat → Int64} {m_lastError : Nat → Int64} {m_lastRate : Nat → Int64} {m_goesOn : Nat → Int32} {m_points : Nat → Int32} {m_at : Nat → Int64} {m_then : Nat → Int64} {m_experiment : Nat → Int32} {m_center : Nat → Int64} {m_height : Nat → Int32} {m_band : Nat → Int32} {m_isUp : Nat → Int32} {m_gone : Nat → Int32} {m_risings : Nat → Int32} {m_second : Nat → Int32} {m_greatest : Nat → Int64} {m_least : Nat → Int64} {m_period : Nat → Int32} {m_swing : Nat → Int64} {ms_thrown : Int32} : ym_m_then (ms_samples, m_a1, m_a2, m_b, m_deadTime, m_load, m_measure, m_before, m_past, m_gain, m_low, m_high, m_setpoint, m_integral, m_guard, m_share, m_mode, m_hand, m_follows, m_hasMaster, m_isStarved, m_held, m_sum, m_lastError, m_lastRate, m_goesOn, m_points, m_at, m_then, m_experiment, m_center, m_height, m_band, m_isUp, m_gone, m_risings, m_second, m_greatest, m_least, m_period, m_swing, ms_thrown) = m_then := rfl
theorem pj_m_experiment {ms_samples : Int32} {m_a1 : Nat → Int64} {m_a2 : Nat → Int64} {m_b : Nat → Int64} {m_deadTime : Nat → Int32} {m_load : Nat → Int32} {m_measure : Nat → Int64} {m_before : Nat → Int64} {m_past : Nat → Int64} {m_gain : Nat → Int64} {m_low : Nat → Int64} {m_high : Nat → Int64} {m_setpoint : Nat → Int64} {m_integral : Nat → Int64} {m_guard : Nat → Int32} {m_share : Nat → Int32} {m_mode : Nat → Int32} {m_hand : Nat → Int64} {m_follows : Nat → Int32} {m_hasMaster : Nat → Int32} {m_isStarved : Nat → Int32} {m_held : Nat → Int32} {m_sum : Nat → Int64} {m_lastError : Nat → Int64} {m_lastRate : Nat → Int64} {m_goesOn : Nat → Int32} {m_points : Nat → Int32} {m_at : Nat → Int64} {m_then : Nat → Int64} {m_experiment : Nat → Int32} {m_center : Nat → Int64} {m_height : Nat → Int32} {m_band : Nat → Int32} {m_isUp : Nat → Int32} {m_gone : Nat → Int32} {m_risings : Nat → Int32} {m_second : Nat → Int32} {m_greatest : Nat → Int64} {m_least : Nat → Int64} {m_period : Nat → Int32} {m_swing : Nat → Int64} {ms_thrown : Int32} : ym_m_experiment (ms_samples, m_a1, m_a2, m_b, m_deadTime, m_load, m_measure, m_before, m_past, m_gain, m_low, m_high, m_setpoint, m_integral, m_guard, m_share, m_mode, m_hand, m_follows, m_hasMaster, m_isStarved, m_held, m_sum, m_lastError, m_lastRate, m_goesOn, m_points, m_at, m_then, m_experiment, m_center, m_height, m_band, m_isUp, m_gone, m_risings, m_second, m_greatest, m_least, m_period, m_swing, ms_thrown) = m_experiment := rfl
theorem pj_m_center {ms_samples : Int32} {m_a1 : Nat → Int64} {m_a2 : Nat → Int64} {m_b : Nat → Int64} {m_deadTime : Nat → Int32} {m_load : Nat → Int32} {m_measure : Nat → Int64} {m_before : Nat → Int64} {m_past : Nat → Int64} {m_gain : Nat → Int64} {m_low : Nat → Int64} {m_high : Nat → Int64} {m_setpoint : Nat → Int64} {m_integral : Nat → Int64} {m_guard : Nat → Int32} {m_share : Nat → Int32} {m_mode : Nat → Int32} {m_hand : Nat → Int64} {m_follows : Nat → Int32} {m_hasMaster : Nat → Int32} {m_isStarved : Nat → Int32} {m_held : Nat → Int32} {m_sum : Nat → Int64} {m_lastError : Nat → Int64} {m_lastRate : Nat → Int64} {m_goesOn : Nat → Int32} {m_points : Nat → Int32} {m_at : Nat → Int64} {m_then : Nat → Int64} {m_experiment : Nat → Int32} {m_center : Nat → Int64} {m_height : Nat → Int32} {m_band : Nat → Int32} {m_isUp : Nat → Int32} {m_gone : Nat → Int32} {m_risings : Nat → Int32} {m_second : Nat → Int32} {m_greatest : Nat → Int64} {m_least : Nat → Int64} {m_period : Nat → Int32} {m_swing : Nat → Int64} {ms_thrown : Int32} : ym_m_center (ms_samples, m_a1, m_a2, m_b, m_deadTime, m_load, m_measure, m_before, m_past, m_gain, m_low, m_high, m_setpoint, m_integral, m_guard, m_share, m_mode, m_hand, m_follows, m_hasMaster, m_isStarved, m_held, m_sum, m_lastError, m_lastRate, m_goesOn, m_points, m_at, m_then, m_experiment, m_center, m_height, m_band, m_isUp, m_gone, m_risings, m_second, m_greatest, m_least, m_period, m_swing, ms_thrown) = m_center := rfl
theorem pj_m_height {ms_samples : Int32} {m_a1 : Nat → Int64} {m_a2 : Nat → Int64} {m_b : Nat → Int64} {m_deadTime : Nat → Int32} {m_load : Nat → Int32} {m_measure : Nat → Int64} {m_before : Nat → Int64} {m_past : Nat → Int64} {m_gain : Nat → Int64} {m_low : Nat → Int64} {m_high : Nat → Int64} {m_setpoint : Nat → Int64} {m_integral : Nat → Int64} {m_guard : Nat → Int32} {m_share : Nat → Int32} {m_mode : Nat → Int32} {m_hand : Nat → Int64} {m_follows : Nat → Int32} {m_hasMaster : Nat → Int32} {m_isStarved : Nat → Int32} {m_held : Nat → Int32} {m_sum : Nat → Int64} {m_lastError : Nat → Int64} {m_lastRate : Nat → Int64} {m_goesOn : Nat → Int32} {m_points : Nat → Int32} {m_at : Nat → Int64} {m_then : Nat → Int64} {m_experiment : Nat → Int32} {m_center : Nat → Int64} {m_height : Nat → Int32} {m_band : Nat → Int32} {m_isUp : Nat → Int32} {m_gone : Nat → Int32} {m_risings : Nat → Int32} {m_second : Nat → Int32} {m_greatest : Nat → Int64} {m_least : Nat → Int64} {m_period : Nat → Int32} {m_swing : Nat → Int64} {ms_thrown : Int32} : ym_m_height (ms_samples, m_a1, m_a2, m_b, m_deadTime, m_load, m_measure, m_before, m_past, m_gain, m_low, m_high, m_setpoint, m_integral, m_guard, m_share, m_mode, m_hand, m_follows, m_hasMaster, m_isStarved, m_held, m_sum, m_lastError, m_lastRate, m_goesOn, m_points, m_at, m_then, m_experiment, m_center, m_height, m_band, m_isUp, m_gone, m_risings, m_second, m_greatest, m_least, m_period, m_swing, ms_thrown) = m_height := rfl
theorem pj_m_band {ms_samples : Int32} {m_a1 : Nat → Int64} {m_a2 : Nat → Int64} {m_b : Nat → Int64} {m_deadTime : Nat → Int32} {m_load : Nat → Int32} {m_measure : Nat → Int64} {m_before : Nat → Int64} {m_past : Nat → Int64} {m_gain : Nat → Int64} {m_low : Nat → Int64} {m_high : Nat → Int64} {m_setpoint : Nat → Int64} {m_integral : Nat → Int64} {m_guard : Nat → Int32} {m_share : Nat → Int32} {m_mode : Nat → Int32} {m_hand : Nat → Int64} {m_follows : Nat → Int32} {m_hasMaster : Nat → Int32} {m_isStarved : Nat → Int32} {m_held : Nat → Int32} {m_sum : Nat → Int64} {m_lastError : Nat → Int64} {m_lastRate : Nat → Int64} {m_goesOn : Nat → Int32} {m_points : Nat → Int32} {m_at : Nat → Int64} {m_then : Nat → Int64} {m_experiment : Nat → Int32} {m_center : Nat → Int64} {m_height : Nat → Int32} {m_band : Nat → Int32} {m_isUp : Nat → Int32} {m_gone : Nat → Int32} {m_risings : Nat → Int32} {m_second : Nat → Int32} {m_greatest : Nat → Int64} {m_least : Nat → Int64} {m_period : Nat → Int32} {m_swing : Nat → Int64} {ms_thrown : Int32} : ym_m_band (ms_samples, m_a1, m_a2, m_b, m_deadTime, m_load, m_measure, m_before, m_past, m_gain, m_low, m_high, m_setpoint, m_integral, m_guard, m_share, m_mode, m_hand, m_follows, m_hasMaster, m_isStarved, m_held, m_sum, m_lastError, m_lastRate, m_goesOn, m_points, m_at, m_then, m_experiment, m_center, m_height, m_band, m_isUp, m_gone, m_risings, m_second, m_greatest, m_least, m_period, m_swing, ms_thrown) = m_band := rfl
theorem pj_m_isUp {ms_samples : Int32} {m_a1 : Nat → Int64} {m_a2 : Nat → Int64} {m_b : Nat → Int64} {m_deadTime : Nat → Int32} {m_load : Nat → Int32} {m_measure : Nat → Int64} {m_before : Nat → Int64} {m_past : Nat → Int64} {m_gain : Nat → Int64} {m_low : Nat → Int64} {m_high : Nat → Int64} {m_setpoint : Nat → Int64} {m_integral : Nat → Int64} {m_guard : Nat → Int32} {m_share : Nat → Int32} {m_mode : Nat → Int32} {m_hand : Nat → Int64} {m_follows : Nat → Int32} {m_hasMaster : Nat → Int32} {m_isStarved : Nat → Int32} {m_held : Nat → Int32} {m_sum : Nat → Int64} {m_lastError : Nat → Int64} {m_lastRate : Nat → Int64} {m_goesOn : Nat → Int32} {m_points : Nat → Int32} {m_at : Nat → Int64} {m_then : Nat → Int64} {m_experiment : Nat → Int32} {m_center : Nat → Int64} {m_height : Nat → Int32} {m_band : Nat → Int32} {m_isUp : Nat → Int32} {m_gone : Nat → Int32} {m_risings : Nat → Int32} {m_second : Nat → Int32} {m_greatest : Nat → Int64} {m_least : Nat → Int64} {m_period : Nat → Int32} {m_swing : Nat → Int64} {ms_thrown : Int32} : ym_m_isUp (ms_samples, m_a1, m_a2, m_b, m_deadTime, m_load, m_measure, m_before, m_past, m_gain, m_low, m_high, m_setpoint, m_integral, m_guard, m_share, m_mode, m_hand, m_follows, m_hasMaster, m_isStarved, m_held, m_sum, m_lastError, m_lastRate, m_goesOn, m_points, m_at, m_then, m_experiment, m_center, m_height, m_band, m_isUp, m_gone, m_risings, m_second, m_greatest, m_least, m_period, m_swing, ms_thrown) = m_isUp := rfl
theorem pj_m_gone {ms_samples : Int32} {m_a1 : Nat → Int64} {m_a2 : Nat → Int64} {m_b : Nat → Int64} {m_deadTime : Nat → Int32} {m_load : Nat → Int32} {m_measure : Nat → Int64} {m_before : Nat → Int64} {m_past : Nat → Int64} {m_gain : Nat → Int64} {m_low : Nat → Int64} {m_high : Nat → Int64} {m_setpoint : Nat → Int64} {m_integral : Nat → Int64} {m_guard : Nat → Int32} {m_share : Nat → Int32} {m_mode : Nat → Int32} {m_hand : Nat → Int64} {m_follows : Nat → Int32} {m_hasMaster : Nat → Int32} {m_isStarved : Nat → Int32} {m_held : Nat → Int32} {m_sum : Nat → Int64} {m_lastError : Nat → Int64} {m_lastRate : Nat → Int64} {m_goesOn : Nat → Int32} {m_points : Nat → Int32} {m_at : Nat → Int64} {m_then : Nat → Int64} {m_experiment : Nat → Int32} {m_center : Nat → Int64} {m_height : Nat → Int32} {m_band : Nat → Int32} {m_isUp : Nat → Int32} {m_gone : Nat → Int32} {m_risings : Nat → Int32} {m_second : Nat → Int32} {m_greatest : Nat → Int64} {m_least : Nat → Int64} {m_period : Nat → Int32} {m_swing : Nat → Int64} {ms_thrown : Int32} : ym_m_gone (ms_samples, m_a1, m_a2, m_b, m_deadTime, m_load, m_measure, m_before, m_past, m_gain, m_low, m_high, m_setpoint, m_integral, m_guard, m_share, m_mode, m_hand, m_follows, m_hasMaster, m_isStarved, m_held, m_sum, m_lastError, m_lastRate, m_goesOn, m_points, m_at, m_then, m_experiment, m_center, m_height, m_band, m_isUp, m_gone, m_risings, m_second, m_greatest, m_least, m_period, m_swing, ms_thrown) = m_gone := rfl
theorem pj_m_risings {ms_samples : Int32} {m_a1 : Nat → Int64} {m_a2 : Nat → Int64} {m_b : Nat → Int64} {m_deadTime : Nat → Int32} {m_load : Nat → Int32} {m_measure : Nat → Int64} {m_before : Nat → Int64} {m_past : Nat → Int64} {m_gain : Nat → Int64} {m_low : Nat → Int64} {m_high : Nat → Int64} {m_setpoint : Nat → Int64} {m_integral : Nat → Int64} {m_guard : Nat → Int32} {m_share : Nat → Int32} {m_mode : Nat → Int32} {m_hand : Nat → Int64} {m_follows : Nat → Int32} {m_hasMaster : Nat → Int32} {m_isStarved : Nat → Int32} {m_held : Nat → Int32} {m_sum : Nat → Int64} {m_lastError : Nat → Int64} {m_lastRate : Nat → Int64} {m_goesOn : Nat → Int32} {m_points : Nat → Int32} {m_at : Nat → Int64} {m_then : Nat → Int64} {m_experiment : Nat → Int32} {m_center : Nat → Int64} {m_height : Nat → Int32} {m_band : Nat → Int32} {m_isUp : Nat → Int32} {m_gone : Nat → Int32} {m_risings : Nat → Int32} {m_second : Nat → Int32} {m_greatest : Nat → Int64} {m_least : Nat → Int64} {m_period : Nat → Int32} {m_swing : Nat → Int64} {ms_thrown : Int32} : ym_m_risings (ms_samples, m_a1, m_a2, m_b, m_deadTime, m_load, m_measure, m_before, m_past, m_gain, m_low, m_high, m_setpoint, m_integral, m_guard, m_share, m_mode, m_hand, m_follows, m_hasMaster, m_isStarved, m_held, m_sum, m_lastError, m_lastRate, m_goesOn, m_points, m_at, m_then, m_experiment, m_center, m_height, m_band, m_isUp, m_gone, m_risings, m_second, m_greatest, m_least, m_period, m_swing, ms_thrown) = m_risings := rfl
theorem pj_m_second {ms_samples : Int32} {m_a1 : Nat → Int64} {m_a2 : Nat → Int64} {m_b : Nat → Int64} {m_deadTime : Nat → Int32} {m_load : Nat → Int32} {m_measure : Nat → Int64} {m_before : Nat → Int64} {m_past : Nat → Int64} {m_gain : Nat → Int64} {m_low : Nat → Int64} {m_high : Nat → Int64} {m_setpoint : Nat → Int64} {m_integral : Nat → Int64} {m_guard : Nat → Int32} {m_share : Nat → Int32} {m_mode : Nat → Int32} {m_hand : Nat → Int64} {m_follows : Nat → Int32} {m_hasMaster : Nat → Int32} {m_isStarved : Nat → Int32} {m_held : Nat → Int32} {m_sum : Nat → Int64} {m_lastError : Nat → Int64} {m_lastRate : Nat → Int64} {m_goesOn : Nat → Int32} {m_points : Nat → Int32} {m_at : Nat → Int64} {m_then : Nat → Int64} {m_experiment : Nat → Int32} {m_center : Nat → Int64} {m_height : Nat → Int32} {m_band : Nat → Int32} {m_isUp : Nat → Int32} {m_gone : Nat → Int32} {m_risings : Nat → Int32} {m_second : Nat → Int32} {m_greatest : Nat → Int64} {m_least : Nat → Int64} {m_period : Nat → Int32} {m_swing : Nat → Int64} {ms_thrown : Int32} : ym_m_second (ms_samples, m_a1, m_a2, m_b, m_deadTime, m_load, m_measure, m_before, m_past, m_gain, m_low, m_high, m_setpoint, m_integral, m_guard, m_share, m_mode, m_hand, m_follows, m_hasMaster, m_isStarved, m_held, m_sum, m_lastError, m_lastRate, m_goesOn, m_points, m_at, m_then, m_experiment, m_center, m_height, m_band, m_isUp, m_gone, m_risings, m_second, m_greatest, m_least, m_period, m_swing, ms_thrown) = m_second := rfl
theorem pj_m_greatest {ms_samples : Int32} {m_a1 : Nat → Int64} {m_a2 : Nat → Int64} {m_b : Nat → Int64} {m_deadTime : Nat → Int32} {m_load : Nat → Int32} {m_measure : Nat → Int64} {m_before : Nat → Int64} {m_past : Nat → Int64} {m_gain : Nat → Int64} {m_low : Nat → Int64} {m_high : Nat → Int64} {m_setpoint : Nat → Int64} {m_integral : Nat → Int64} {m_guard : Nat → Int32} {m_share : Nat → Int32} {m_mode : Nat → Int32} {m_hand : Nat → Int64} {m_follows : Nat → Int32} {m_hasMaster : Nat → Int32} {m_isStarved : Nat → Int32} {m_held : Nat → Int32} {m_sum : Nat → Int64} {m_lastError : Nat → Int64} {m_lastRate : Nat → Int64} {m_goesOn : Nat → Int32} {m_points : Nat → Int32} {m_at : Nat → Int64} {m_then : Nat → Int64} {m_experiment : Nat → Int32} {m_center : Nat → Int64} {m_height : Nat → Int32} {m_band : Nat → Int32} {m_isUp : Nat → Int32} {m_gone : Nat → Int32} {m_risings : Nat → Int32} {m_second : Nat → Int32} {m_greatest : Nat → Int64} {m_least : Nat → Int64} {m_period : Nat → Int32} {m_swing : Nat → Int64} {ms_thrown : Int32} : ym_m_greatest (ms_samples, m_a1, m_a2, m_b, m_deadTime, m_load, m_measure, m_before, m_past, m_gain, m_low, m_high, m_setpoint, m_integral, m_guard, m_share, m_mode, m_hand, m_follows, m_hasMaster, m_isStarved, m_held, m_sum, m_lastError, m_lastRate, m_goesOn, m_points, m_at, m_then, m_experiment, m_center, m_height, m_band, m_isUp, m_gone, m_risings, m_second, m_greatest, m_least, m_period, m_swing, ms_thrown) = m_greatest := rfl
theorem pj_m_least {ms_samples : Int32} {m_a1 : Nat → Int64} {m_a2 : Nat → Int64} {m_b : Nat → Int64} {m_deadTime : Nat → Int32} {m_load : Nat → Int32} {m_measure : Nat → Int64} {m_before : Nat → Int64} {m_past : Nat → Int64} {m_gain : Nat → Int64} {m_low : Nat → Int64} {m_high : Nat → Int64} {m_setpoint : Nat → Int64} {m_integral : Nat → Int64} {m_guard : Nat → Int32} {m_share : Nat → Int32} {m_mode : Nat → Int32} {m_hand : Nat → Int64} {m_follows : Nat → Int32} {m_hasMaster : Nat → Int32} {m_isStarved : Nat → Int32} {m_held : Nat → Int32} {m_sum : Nat → Int64} {m_lastError : Nat → Int64} {m_lastRate : Nat → Int64} {m_goesOn : Nat → Int32} {m_points : Nat → Int32} {m_at : Nat → Int64} {m_then : Nat → Int64} {m_experiment : Nat → Int32} {m_center : Nat → Int64} {m_height : Nat → Int32} {m_band : Nat → Int32} {m_isUp : Nat → Int32} {m_gone : Nat → Int32} {m_risings : Nat → Int32} {m_second : Nat → Int32} {m_greatest : Nat → Int64} {m_least : Nat → Int64} {m_period : Nat → Int32} {m_swing : Nat → Int64} {ms_thrown : Int32} : ym_m_least (ms_samples, m_a1, m_a2, m_b, m_deadTime, m_load, m_measure, m_before, m_past, m_gain, m_low, m_high, m_setpoint, m_integral, m_guard, m_share, m_mode, m_hand, m_follows, m_hasMaster, m_isStarved, m_held, m_sum, m_lastError, m_lastRate, m_goesOn, m_points, m_at, m_then, m_experiment, m_center, m_height, m_band, m_isUp, m_gone, m_risings, m_second, m_greatest, m_least, m_period, m_swing, ms_thrown) = m_least := rfl
theorem pj_m_period {ms_samples : Int32} {m_a1 : Nat → Int64} {m_a2 : Nat → Int64} {m_b : Nat → Int64} {m_deadTime : Nat → Int32} {m_load : Nat → Int32} {m_measure : Nat → Int64} {m_before : Nat → Int64} {m_past : Nat → Int64} {m_gain : Nat → Int64} {m_low : Nat → Int64} {m_high : Nat → Int64} {m_setpoint : Nat → Int64} {m_integral : Nat → Int64} {m_guard : Nat → Int32} {m_share : Nat → Int32} {m_mode : Nat → Int32} {m_hand : Nat → Int64} {m_follows : Nat → Int32} {m_hasMaster : Nat → Int32} {m_isStarved : Nat → Int32} {m_held : Nat → Int32} {m_sum : Nat → Int64} {m_lastError : Nat → Int64} {m_lastRate : Nat → Int64} {m_goesOn : Nat → Int32} {m_points : Nat → Int32} {m_at : Nat → Int64} {m_then : Nat → Int64} {m_experiment : Nat → Int32} {m_center : Nat → Int64} {m_height : Nat → Int32} {m_band : Nat → Int32} {m_isUp : Nat → Int32} {m_gone : Nat → Int32} {m_risings : Nat → Int32} {m_second : Nat → Int32} {m_greatest : Nat → Int64} {m_least : Nat → Int64} {m_period : Nat → Int32} {m_swing : Nat → Int64} {ms_thrown : Int32} : ym_m_period (ms_samples, m_a1, m_a2, m_b, m_deadTime, m_load, m_measure, m_before, m_past, m_gain, m_low, m_high, m_setpoint, m_integral, m_guard, m_share, m_mode, m_hand, m_follows, m_hasMaster, m_isStarved, m_held, m_sum, m_lastError, m_lastRate, m_goesOn, m_points, m_at, m_then, m_experiment, m_center, m_height, m_band, m_isUp, m_gone, m_risings, m_second, m_greatest, m_least, m_period, m_swing, ms_thrown) = m_period := rfl
theorem pj_m_swing {ms_samples : Int32} {m_a1 : Nat → Int64} {m_a2 : Nat → Int64} {m_b : Nat → Int64} {m_deadTime : Nat → Int32} {m_load : Nat → Int32} {m_measure : Nat → Int64} {m_before : Nat → Int64} {m_past : Nat → Int64} {m_gain : Nat → Int64} {m_low : Nat → Int64} {m_high : Nat → Int64} {m_setpoint : Nat → Int64} {m_integral : Nat → Int64} {m_guard : Nat → Int32} {m_share : Nat → Int32} {m_mode : Nat → Int32} {m_hand : Nat → Int64} {m_follows : Nat → Int32} {m_hasMaster : Nat → Int32} {m_isStarved : Nat → Int32} {m_held : Nat → Int32} {m_sum : Nat → Int64} {m_lastError : Nat → Int64} {m_lastRate : Nat → Int64} {m_goesOn : Nat → Int32} {m_points : Nat → Int32} {m_at : Nat → Int64} {m_then : Nat → Int64} {m_experiment : Nat → Int32} {m_center : Nat → Int64} {m_height : Nat → Int32} {m_band : Nat → Int32} {m_isUp : Nat → Int32} {m_gone : Nat → Int32} {m_risings : Nat → Int32} {m_second : Nat → Int32} {m_greatest : Nat → Int64} {m_least : Nat → Int64} {m_period : Nat → Int32} {m_swing : Nat → Int64} {ms_thrown : Int32} : ym_m_swing (ms_samples, m_a1, m_a2, m_b, m_deadTime, m_load, m_measure, m_before, m_past, m_gain, m_low, m_high, m_setpoint, m_integral, m_guard, m_share, m_mode, m_hand, m_follows, m_hasMaster, m_isStarved, m_held, m_sum, m_lastError, m_lastRate, m_goesOn, m_points, m_at, m_then, m_experiment, m_center, m_height, m_band, m_isUp, m_gone, m_risings, m_second, m_greatest, m_least, m_period, m_swing, ms_thrown) = m_swing := rfl
theorem pj_ms_thrown {ms_samples : Int32} {m_a1 : Nat → Int64} {m_a2 : Nat → Int64} {m_b : Nat → Int64} {m_deadTime : Nat → Int32} {m_load : Nat → Int32} {m_measure : Nat → Int64} {m_before : Nat → Int64} {m_past : Nat → Int64} {m_gain : Nat → Int64} {m_low : Nat → Int64} {m_high : Nat → Int64} {m_setpoint : Nat → Int64} {m_integral : Nat → Int64} {m_guard : Nat → Int32} {m_share : Nat → Int32} {m_mode : Nat → Int32} {m_hand : Nat → Int64} {m_follows : Nat → Int32} {m_hasMaster : Nat → Int32} {m_isStarved : Nat → Int32} {m_held : Nat → Int32} {m_sum : Nat → Int64} {m_lastError : Nat → Int64} {m_lastRate : Nat → Int64} {m_goesOn : Nat → Int32} {m_points : Nat → Int32} {m_at : Nat → Int64} {m_then : Nat → Int64} {m_experiment : Nat → Int32} {m_center : Nat → Int64} {m_height : Nat → Int32} {m_band : Nat → Int32} {m_isUp : Nat → Int32} {m_gone : Nat → Int32} {m_risings : Nat → Int32} {m_second : Nat → Int32} {m_greatest : Nat → Int64} {m_least : Nat → Int64} {m_period : Nat → Int32} {m_swing : Nat → Int64} {ms_thrown : Int32} : ym_ms_thrown (ms_samples, m_a1, m_a2, m_b, m_deadTime, m_load, m_measure, m_before, m_past, m_gain, m_low, m_high, m_setpoint, m_integral, m_guard, m_share, m_mode, m_hand, m_follows, m_hasMaster, m_isStarved, m_held, m_sum, m_lastError, m_lastRate, m_goesOn, m_points, m_at, m_then, m_experiment, m_center, m_height, m_band, m_isUp, m_gone, m_risings, m_second, m_greatest, m_least, m_period, m_swing, ms_thrown) = ms_thrown := rfl
theorem ps_ms_samples (M : MT) : ym_ms_samples (stepM M) = sM_ms_samples M := pj_ms_samples
theorem pg_ms_samples (n : Int32) (lw : Int64) (M : MT) : ym_ms_samples (pq n lw M) = (ym_ms_samples M) := pj_ms_samples
theorem ps_m_a1 (M : MT) : ym_m_a1 (stepM M) = sM_m_a1 M := pj_m_a1
theorem pg_m_a1 (n : Int32) (lw : Int64) (M : MT) : ym_m_a1 (pq n lw M) = (ym_m_a1 M) := pj_m_a1
theorem ps_m_a2 (M : MT) : ym_m_a2 (stepM M) = sM_m_a2 M := pj_m_a2
theorem pg_m_a2 (n : Int32) (lw : Int64) (M : MT) : ym_m_a2 (pq n lw M) = (ym_m_a2 M) := pj_m_a2
theorem ps_m_b (M : MT) : ym_m_b (stepM M) = sM_m_b M := pj_m_b
theorem pg_m_b (n : Int32) (lw : Int64) (M : MT) : ym_m_b (pq n lw M) = (ym_m_b M) := pj_m_b
theorem ps_m_deadTime (M : MT) : ym_m_deadTime (stepM M) = sM_m_deadTime M := pj_m_deadTime
theorem pg_m_deadTime (n : Int32) (lw : Int64) (M : MT) : ym_m_deadTime (pq n lw M) = (ym_m_deadTime M) := pj_m_deadTime
theorem ps_m_load (M : MT) : ym_m_load (stepM M) = sM_m_load M := pj_m_load
theorem pg_m_load (n : Int32) (lw : Int64) (M : MT) : ym_m_load (pq n lw M) = (ym_m_load M) := pj_m_load
theorem ps_m_measure (M : MT) : ym_m_measure (stepM M) = sM_m_measure M := pj_m_measure
theorem pg_m_measure (n : Int32) (lw : Int64) (M : MT) : ym_m_measure (pq n lw M) = (ym_m_measure M) := pj_m_measure
theorem ps_m_before (M : MT) : ym_m_before (stepM M) = sM_m_before M := pj_m_before
theorem pg_m_before (n : Int32) (lw : Int64) (M : MT) : ym_m_before (pq n lw M) = (ym_m_before M) := pj_m_before
theorem ps_m_past (M : MT) : ym_m_past (stepM M) = sM_m_past M := pj_m_past
theorem pg_m_past (n : Int32) (lw : Int64) (M : MT) : ym_m_past (pq n lw M) = (ym_m_past M) := pj_m_past
theorem ps_m_gain (M : MT) : ym_m_gain (stepM M) = sM_m_gain M := pj_m_gain
theorem pg_m_gain (n : Int32) (lw : Int64) (M : MT) : ym_m_gain (pq n lw M) = (f_X6_puts_m_gain (ym_m_measure M) (ym_m_gain M) (ym_m_mode M) (ym_m_hasMaster M) (ym_m_points M) (ym_m_at M) (ym_m_then M) n) := pj_m_gain
theorem ps_m_low (M : MT) : ym_m_low (stepM M) = sM_m_low M := pj_m_low
theorem pg_m_low (n : Int32) (lw : Int64) (M : MT) : ym_m_low (pq n lw M) = (ym_m_low M) := pj_m_low
theorem ps_m_high (M : MT) : ym_m_high (stepM M) = sM_m_high M := pj_m_high
theorem pg_m_high (n : Int32) (lw : Int64) (M : MT) : ym_m_high (pq n lw M) = (ym_m_high M) := pj_m_high
theorem ps_m_setpoint (M : MT) : ym_m_setpoint (stepM M) = sM_m_setpoint M := pj_m_setpoint
theorem pg_m_setpoint (n : Int32) (lw : Int64) (M : MT) : ym_m_setpoint (pq n lw M) = (f_X6_puts_m_setpoint (ym_m_measure M) (ym_m_setpoint M) (ym_m_mode M) (ym_m_follows M) n lw) := pj_m_setpoint
theorem ps_m_integral (M : MT) : ym_m_integral (stepM M) = sM_m_integral M := pj_m_integral
theorem pg_m_integral (n : Int32) (lw : Int64) (M : MT) : ym_m_integral (pq n lw M) = (f_X6_puts_m_integral (ym_m_measure M) (ym_m_before M) (ym_m_gain M) (ym_m_low M) (ym_m_high M) (ym_m_setpoint M) (ym_m_integral M) (ym_m_guard M) (ym_m_share M) (ym_m_mode M) (ym_m_hasMaster M) (ym_m_points M) (ym_m_at M) (ym_m_then M) (ym_m_experiment M) (ym_m_center M) (ym_m_band M) (ym_m_isUp M) (ym_m_gone M) (ym_m_risings M) n lw) := pj_m_integral
theorem ps_m_guard (M : MT) : ym_m_guard (stepM M) = sM_m_guard M := pj_m_guard
theorem pg_m_guard (n : Int32) (lw : Int64) (M : MT) : ym_m_guard (pq n lw M) = (ym_m_guard M) := pj_m_guard
theorem ps_m_share (M : MT) : ym_m_share (stepM M) = sM_m_share M := pj_m_share
theorem pg_m_share (n : Int32) (lw : Int64) (M : MT) : ym_m_share (pq n lw M) = (ym_m_share M) := pj_m_share
theorem ps_m_mode (M : MT) : ym_m_mode (stepM M) = sM_m_mode M := pj_m_mode
theorem pg_m_mode (n : Int32) (lw : Int64) (M : MT) : ym_m_mode (pq n lw M) = (f_X6_puts_m_mode (ym_m_measure M) (ym_m_setpoint M) (ym_m_mode M) (ym_m_experiment M) (ym_m_band M) (ym_m_isUp M) (ym_m_gone M) (ym_m_risings M) n) := pj_m_mode
theorem ps_m_hand (M : MT) : ym_m_hand (stepM M) = sM_m_hand M := pj_m_hand
theorem pg_m_hand (n : Int32) (lw : Int64) (M : MT) : ym_m_hand (pq n lw M) = (ym_m_hand M) := pj_m_hand
theorem ps_m_follows (M : MT) : ym_m_follows (stepM M) = sM_m_follows M := pj_m_follows
theorem pg_m_follows (n : Int32) (lw : Int64) (M : MT) : ym_m_follows (pq n lw M) = (ym_m_follows M) := pj_m_follows
theorem ps_m_hasMaster (M : MT) : ym_m_hasMaster (stepM M) = sM_m_hasMaster M := pj_m_hasMaster
theorem pg_m_hasMaster (n : Int32) (lw : Int64) (M : MT) : ym_m_hasMaster (pq n lw M) = (ym_m_hasMaster M) := pj_m_hasMaster
theorem ps_m_isStarved (M : MT) : ym_m_isStarved (stepM M) = sM_m_isStarved M := pj_m_isStarved
theorem pg_m_isStarved (n : Int32) (lw : Int64) (M : MT) : ym_m_isStarved (pq n lw M) = (f_X6_puts_m_isStarved (ym_m_mode M) (ym_m_hasMaster M) (ym_m_isStarved M) n) := pj_m_isStarved
theorem ps_m_held (M : MT) : ym_m_held (stepM M) = sM_m_held M := pj_m_held
theorem pg_m_held (n : Int32) (lw : Int64) (M : MT) : ym_m_held (pq n lw M) = (f_X6_puts_m_held (ym_m_measure M) (ym_m_before M) (ym_m_gain M) (ym_m_low M) (ym_m_high M) (ym_m_setpoint M) (ym_m_integral M) (ym_m_mode M) (ym_m_hasMaster M) (ym_m_held M) (ym_m_points M) (ym_m_at M) (ym_m_then M) n lw) := pj_m_held
theorem ps_m_sum (M : MT) : ym_m_sum (stepM M) = sM_m_sum M := pj_m_sum
theorem pg_m_sum (n : Int32) (lw : Int64) (M : MT) : ym_m_sum (pq n lw M) = (f_X6_puts_m_sum (ym_m_measure M) (ym_m_before M) (ym_m_gain M) (ym_m_setpoint M) (ym_m_integral M) (ym_m_mode M) (ym_m_hasMaster M) (ym_m_sum M) (ym_m_lastError M) (ym_m_lastRate M) (ym_m_goesOn M) (ym_m_points M) (ym_m_at M) (ym_m_then M) n lw) := pj_m_sum
theorem ps_m_lastError (M : MT) : ym_m_lastError (stepM M) = sM_m_lastError M := pj_m_lastError
theorem pg_m_lastError (n : Int32) (lw : Int64) (M : MT) : ym_m_lastError (pq n lw M) = (f_X6_puts_m_lastError (ym_m_measure M) (ym_m_setpoint M) (ym_m_mode M) (ym_m_hasMaster M) (ym_m_lastError M) n lw) := pj_m_lastError
theorem ps_m_lastRate (M : MT) : ym_m_lastRate (stepM M) = sM_m_lastRate M := pj_m_lastRate
theorem pg_m_lastRate (n : Int32) (lw : Int64) (M : MT) : ym_m_lastRate (pq n lw M) = (f_X6_puts_m_lastRate (ym_m_measure M) (ym_m_before M) (ym_m_mode M) (ym_m_hasMaster M) (ym_m_lastRate M) n) := pj_m_lastRate
theorem ps_m_goesOn (M : MT) : ym_m_goesOn (stepM M) = sM_m_goesOn M := pj_m_goesOn
theorem pg_m_goesOn (n : Int32) (lw : Int64) (M : MT) : ym_m_goesOn (pq n lw M) = (f_X6_puts_m_goesOn (ym_m_measure M) (ym_m_setpoint M) (ym_m_mode M) (ym_m_hasMaster M) (ym_m_goesOn M) (ym_m_experiment M) (ym_m_band M) (ym_m_isUp M) (ym_m_gone M) (ym_m_risings M) n) := pj_m_goesOn
theorem ps_m_points (M : MT) : ym_m_points (stepM M) = sM_m_points M := pj_m_points
theorem pg_m_points (n : Int32) (lw : Int64) (M : MT) : ym_m_points (pq n lw M) = (ym_m_points M) := pj_m_points
theorem ps_m_at (M : MT) : ym_m_at (stepM M) = sM_m_at M := pj_m_at
theorem pg_m_at (n : Int32) (lw : Int64) (M : MT) : ym_m_at (pq n lw M) = (ym_m_at M) := pj_m_at
theorem ps_m_then (M : MT) : ym_m_then (stepM M) = sM_m_then M := pj_m_then
theorem pg_m_then (n : Int32) (lw : Int64) (M : MT) : ym_m_then (pq n lw M) = (ym_m_then M) := pj_m_then
theorem ps_m_experiment (M : MT) : ym_m_experiment (stepM M) = sM_m_experiment M := pj_m_experiment
theorem pg_m_experiment (n : Int32) (lw : Int64) (M : MT) : ym_m_experiment (pq n lw M) = (f_X6_puts_m_experiment (ym_m_measure M) (ym_m_setpoint M) (ym_m_mode M) (ym_m_experiment M) (ym_m_band M) (ym_m_isUp M) (ym_m_gone M) (ym_m_risings M) n) := pj_m_experiment
theorem ps_m_center (M : MT) : ym_m_center (stepM M) = sM_m_center M := pj_m_center
theorem pg_m_center (n : Int32) (lw : Int64) (M : MT) : ym_m_center (pq n lw M) = (ym_m_center M) := pj_m_center
theorem ps_m_height (M : MT) : ym_m_height (stepM M) = sM_m_height M := pj_m_height
theorem pg_m_height (n : Int32) (lw : Int64) (M : MT) : ym_m_height (pq n lw M) = (ym_m_height M) := pj_m_height
theorem ps_m_band (M : MT) : ym_m_band (stepM M) = sM_m_band M := pj_m_band
theorem pg_m_band (n : Int32) (lw : Int64) (M : MT) : ym_m_band (pq n lw M) = (ym_m_band M) := pj_m_band
theorem ps_m_isUp (M : MT) : ym_m_isUp (stepM M) = sM_m_isUp M := pj_m_isUp
theorem pg_m_isUp (n : Int32) (lw : Int64) (M : MT) : ym_m_isUp (pq n lw M) = (f_X6_puts_m_isUp (ym_m_measure M) (ym_m_setpoint M) (ym_m_mode M) (ym_m_band M) (ym_m_isUp M) n) := pj_m_isUp
theorem ps_m_gone (M : MT) : ym_m_gone (stepM M) = sM_m_gone M := pj_m_gone
theorem pg_m_gone (n : Int32) (lw : Int64) (M : MT) : ym_m_gone (pq n lw M) = (f_X6_puts_m_gone (ym_m_mode M) (ym_m_gone M) n) := pj_m_gone
theorem ps_m_risings (M : MT) : ym_m_risings (stepM M) = sM_m_risings M := pj_m_risings
theorem pg_m_risings (n : Int32) (lw : Int64) (M : MT) : ym_m_risings (pq n lw M) = (f_X6_puts_m_risings (ym_m_measure M) (ym_m_setpoint M) (ym_m_mode M) (ym_m_band M) (ym_m_isUp M) (ym_m_risings M) n) := pj_m_risings
theorem ps_m_second (M : MT) : ym_m_second (stepM M) = sM_m_second M := pj_m_second
theorem pg_m_second (n : Int32) (lw : Int64) (M : MT) : ym_m_second (pq n lw M) = (f_X6_puts_m_second (ym_m_measure M) (ym_m_setpoint M) (ym_m_mode M) (ym_m_band M) (ym_m_isUp M) (ym_m_gone M) (ym_m_risings M) (ym_m_second M) n) := pj_m_second
theorem ps_m_greatest (M : MT) : ym_m_greatest (stepM M) = sM_m_greatest M := pj_m_greatest
theorem pg_m_greatest (n : Int32) (lw : Int64) (M : MT) : ym_m_greatest (pq n lw M) = (f_X6_puts_m_greatest (ym_m_measure M) (ym_m_setpoint M) (ym_m_mode M) (ym_m_band M) (ym_m_isUp M) (ym_m_greatest M) n) := pj_m_greatest
theorem ps_m_least (M : MT) : ym_m_least (stepM M) = sM_m_least M := pj_m_least
theorem pg_m_least (n : Int32) (lw : Int64) (M : MT) : ym_m_least (pq n lw M) = (f_X6_puts_m_least (ym_m_measure M) (ym_m_setpoint M) (ym_m_mode M) (ym_m_band M) (ym_m_isUp M) (ym_m_least M) n) := pj_m_least
theorem ps_m_period (M : MT) : ym_m_period (stepM M) = sM_m_period M := pj_m_period
theorem pg_m_period (n : Int32) (lw : Int64) (M : MT) : ym_m_period (pq n lw M) = (f_X6_puts_m_period (ym_m_measure M) (ym_m_setpoint M) (ym_m_mode M) (ym_m_band M) (ym_m_isUp M) (ym_m_gone M) (ym_m_risings M) (ym_m_second M) (ym_m_period M) n) := pj_m_period
theorem ps_m_swing (M : MT) : ym_m_swing (stepM M) = sM_m_swing M := pj_m_swing
theorem pg_m_swing (n : Int32) (lw : Int64) (M : MT) : ym_m_swing (pq n lw M) = (f_X6_puts_m_swing (ym_m_measure M) (ym_m_setpoint M) (ym_m_mode M) (ym_m_band M) (ym_m_isUp M) (ym_m_risings M) (ym_m_greatest M) (ym_m_least M) (ym_m_swing M) n) := pj_m_swing
theorem ps_ms_thrown (M : MT) : ym_ms_thrown (stepM M) = sM_ms_thrown M := pj_ms_thrown
theorem pg_ms_thrown (n : Int32) (lw : Int64) (M : MT) : ym_ms_thrown (pq n lw M) = (ym_ms_thrown M) := pj_ms_thrown
theorem sq_m_a1 (M : MT) : ym_m_a1 (stepM M) = ym_m_a1 (pq 2 (pr 1 (pr 0 0 M) (pq 0 0 M)) (pq 1 (pr 0 0 M) (pq 0 0 M))) := by
  rw [ps_m_a1]
  simp only [sM_m_a1, f_X6_sample_m_gain, f_X6_sample_m_gone, f_X6_sample_m_isStarved, f_X6_sample_m_lastRate, f_X6_sample_ms_samples, f_X6_sample_v10, f_X6_sample_v11, f_X6_sample_v12, f_X6_sample_v13, f_X6_sample_v14, f_X6_sample_v21, f_X6_sample_v22, f_X6_sample_v23, f_X6_sample_v24, f_X6_sample_v25, f_X6_sample_v26, f_X6_sample_v27, f_X6_sample_v28, f_X6_sample_v29, f_X6_sample_v30, f_X6_sample_v31, f_X6_sample_v32, f_X6_sample_v33, f_X6_sample_v34, f_X6_sample_v35, f_X6_sample_v36, f_X6_sample_v4, f_X6_sample_v5, f_X6_sample_v6, f_X6_sample_v7, f_X6_sample_v8, f_X6_sample_v9, pg_ms_samples, pg_m_a1, pg_m_a2, pg_m_b, pg_m_deadTime, pg_m_load, pg_m_measure, pg_m_before, pg_m_past, pg_m_gain, pg_m_low, pg_m_high, pg_m_setpoint, pg_m_integral, pg_m_guard, pg_m_share, pg_m_mode, pg_m_hand, pg_m_follows, pg_m_hasMaster, pg_m_isStarved, pg_m_held, pg_m_sum, pg_m_lastError, pg_m_lastRate, pg_m_goesOn, pg_m_points, pg_m_at, pg_m_then, pg_m_experiment, pg_m_center, pg_m_height, pg_m_band, pg_m_isUp, pg_m_gone, pg_m_risings, pg_m_second, pg_m_greatest, pg_m_least, pg_m_period, pg_m_swing, pg_ms_thrown, pr]
theorem sq_m_a2 (M : MT) : ym_m_a2 (stepM M) = ym_m_a2 (pq 2 (pr 1 (pr 0 0 M) (pq 0 0 M)) (pq 1 (pr 0 0 M) (pq 0 0 M))) := by
  rw [ps_m_a2]
  simp only [sM_m_a2, f_X6_sample_m_gain, f_X6_sample_m_gone, f_X6_sample_m_isStarved, f_X6_sample_m_lastRate, f_X6_sample_ms_samples, f_X6_sample_v10, f_X6_sample_v11, f_X6_sample_v12, f_X6_sample_v13, f_X6_sample_v14, f_X6_sample_v21, f_X6_sample_v22, f_X6_sample_v23, f_X6_sample_v24, f_X6_sample_v25, f_X6_sample_v26, f_X6_sample_v27, f_X6_sample_v28, f_X6_sample_v29, f_X6_sample_v30, f_X6_sample_v31, f_X6_sample_v32, f_X6_sample_v33, f_X6_sample_v34, f_X6_sample_v35, f_X6_sample_v36, f_X6_sample_v4, f_X6_sample_v5, f_X6_sample_v6, f_X6_sample_v7, f_X6_sample_v8, f_X6_sample_v9, pg_ms_samples, pg_m_a1, pg_m_a2, pg_m_b, pg_m_deadTime, pg_m_load, pg_m_measure, pg_m_before, pg_m_past, pg_m_gain, pg_m_low, pg_m_high, pg_m_setpoint, pg_m_integral, pg_m_guard, pg_m_share, pg_m_mode, pg_m_hand, pg_m_follows, pg_m_hasMaster, pg_m_isStarved, pg_m_held, pg_m_sum, pg_m_lastError, pg_m_lastRate, pg_m_goesOn, pg_m_points, pg_m_at, pg_m_then, pg_m_experiment, pg_m_center, pg_m_height, pg_m_band, pg_m_isUp, pg_m_gone, pg_m_risings, pg_m_second, pg_m_greatest, pg_m_least, pg_m_period, pg_m_swing, pg_ms_thrown, pr]
theorem sq_m_b (M : MT) : ym_m_b (stepM M) = ym_m_b (pq 2 (pr 1 (pr 0 0 M) (pq 0 0 M)) (pq 1 (pr 0 0 M) (pq 0 0 M))) := by
  rw [ps_m_b]
  simp only [sM_m_b, f_X6_sample_m_gain, f_X6_sample_m_gone, f_X6_sample_m_isStarved, f_X6_sample_m_lastRate, f_X6_sample_ms_samples, f_X6_sample_v10, f_X6_sample_v11, f_X6_sample_v12, f_X6_sample_v13, f_X6_sample_v14, f_X6_sample_v21, f_X6_sample_v22, f_X6_sample_v23, f_X6_sample_v24, f_X6_sample_v25, f_X6_sample_v26, f_X6_sample_v27, f_X6_sample_v28, f_X6_sample_v29, f_X6_sample_v30, f_X6_sample_v31, f_X6_sample_v32, f_X6_sample_v33, f_X6_sample_v34, f_X6_sample_v35, f_X6_sample_v36, f_X6_sample_v4, f_X6_sample_v5, f_X6_sample_v6, f_X6_sample_v7, f_X6_sample_v8, f_X6_sample_v9, pg_ms_samples, pg_m_a1, pg_m_a2, pg_m_b, pg_m_deadTime, pg_m_load, pg_m_measure, pg_m_before, pg_m_past, pg_m_gain, pg_m_low, pg_m_high, pg_m_setpoint, pg_m_integral, pg_m_guard, pg_m_share, pg_m_mode, pg_m_hand, pg_m_follows, pg_m_hasMaster, pg_m_isStarved, pg_m_held, pg_m_sum, pg_m_lastError, pg_m_lastRate, pg_m_goesOn, pg_m_points, pg_m_at, pg_m_then, pg_m_experiment, pg_m_center, pg_m_height, pg_m_band, pg_m_isUp, pg_m_gone, pg_m_risings, pg_m_second, pg_m_greatest, pg_m_least, pg_m_period, pg_m_swing, pg_ms_thrown, pr]
theorem sq_m_deadTime (M : MT) : ym_m_deadTime (stepM M) = ym_m_deadTime (pq 2 (pr 1 (pr 0 0 M) (pq 0 0 M)) (pq 1 (pr 0 0 M) (pq 0 0 M))) := by
  rw [ps_m_deadTime]
  simp only [sM_m_deadTime, f_X6_sample_m_gain, f_X6_sample_m_gone, f_X6_sample_m_isStarved, f_X6_sample_m_lastRate, f_X6_sample_ms_samples, f_X6_sample_v10, f_X6_sample_v11, f_X6_sample_v12, f_X6_sample_v13, f_X6_sample_v14, f_X6_sample_v21, f_X6_sample_v22, f_X6_sample_v23, f_X6_sample_v24, f_X6_sample_v25, f_X6_sample_v26, f_X6_sample_v27, f_X6_sample_v28, f_X6_sample_v29, f_X6_sample_v30, f_X6_sample_v31, f_X6_sample_v32, f_X6_sample_v33, f_X6_sample_v34, f_X6_sample_v35, f_X6_sample_v36, f_X6_sample_v4, f_X6_sample_v5, f_X6_sample_v6, f_X6_sample_v7, f_X6_sample_v8, f_X6_sample_v9, pg_ms_samples, pg_m_a1, pg_m_a2, pg_m_b, pg_m_deadTime, pg_m_load, pg_m_measure, pg_m_before, pg_m_past, pg_m_gain, pg_m_low, pg_m_high, pg_m_setpoint, pg_m_integral, pg_m_guard, pg_m_share, pg_m_mode, pg_m_hand, pg_m_follows, pg_m_hasMaster, pg_m_isStarved, pg_m_held, pg_m_sum, pg_m_lastError, pg_m_lastRate, pg_m_goesOn, pg_m_points, pg_m_at, pg_m_then, pg_m_experiment, pg_m_center, pg_m_height, pg_m_band, pg_m_isUp, pg_m_gone, pg_m_risings, pg_m_second, pg_m_greatest, pg_m_least, pg_m_period, pg_m_swing, pg_ms_thrown, pr]
theorem sq_m_load (M : MT) : ym_m_load (stepM M) = ym_m_load (pq 2 (pr 1 (pr 0 0 M) (pq 0 0 M)) (pq 1 (pr 0 0 M) (pq 0 0 M))) := by
  rw [ps_m_load]
  simp only [sM_m_load, f_X6_sample_m_gain, f_X6_sample_m_gone, f_X6_sample_m_isStarved, f_X6_sample_m_lastRate, f_X6_sample_ms_samples, f_X6_sample_v10, f_X6_sample_v11, f_X6_sample_v12, f_X6_sample_v13, f_X6_sample_v14, f_X6_sample_v21, f_X6_sample_v22, f_X6_sample_v23, f_X6_sample_v24, f_X6_sample_v25, f_X6_sample_v26, f_X6_sample_v27, f_X6_sample_v28, f_X6_sample_v29, f_X6_sample_v30, f_X6_sample_v31, f_X6_sample_v32, f_X6_sample_v33, f_X6_sample_v34, f_X6_sample_v35, f_X6_sample_v36, f_X6_sample_v4, f_X6_sample_v5, f_X6_sample_v6, f_X6_sample_v7, f_X6_sample_v8, f_X6_sample_v9, pg_ms_samples, pg_m_a1, pg_m_a2, pg_m_b, pg_m_deadTime, pg_m_load, pg_m_measure, pg_m_before, pg_m_past, pg_m_gain, pg_m_low, pg_m_high, pg_m_setpoint, pg_m_integral, pg_m_guard, pg_m_share, pg_m_mode, pg_m_hand, pg_m_follows, pg_m_hasMaster, pg_m_isStarved, pg_m_held, pg_m_sum, pg_m_lastError, pg_m_lastRate, pg_m_goesOn, pg_m_points, pg_m_at, pg_m_then, pg_m_experiment, pg_m_center, pg_m_height, pg_m_band, pg_m_isUp, pg_m_gone, pg_m_risings, pg_m_second, pg_m_greatest, pg_m_least, pg_m_period, pg_m_swing, pg_ms_thrown, pr]
theorem sq_m_gain (M : MT) : ym_m_gain (stepM M) = ym_m_gain (pq 2 (pr 1 (pr 0 0 M) (pq 0 0 M)) (pq 1 (pr 0 0 M) (pq 0 0 M))) := by
  rw [ps_m_gain]
  simp only [sM_m_gain, f_X6_sample_m_gain, f_X6_sample_m_gone, f_X6_sample_m_isStarved, f_X6_sample_m_lastRate, f_X6_sample_ms_samples, f_X6_sample_v10, f_X6_sample_v11, f_X6_sample_v12, f_X6_sample_v13, f_X6_sample_v14, f_X6_sample_v21, f_X6_sample_v22, f_X6_sample_v23, f_X6_sample_v24, f_X6_sample_v25, f_X6_sample_v26, f_X6_sample_v27, f_X6_sample_v28, f_X6_sample_v29, f_X6_sample_v30, f_X6_sample_v31, f_X6_sample_v32, f_X6_sample_v33, f_X6_sample_v34, f_X6_sample_v35, f_X6_sample_v36, f_X6_sample_v4, f_X6_sample_v5, f_X6_sample_v6, f_X6_sample_v7, f_X6_sample_v8, f_X6_sample_v9, pg_ms_samples, pg_m_a1, pg_m_a2, pg_m_b, pg_m_deadTime, pg_m_load, pg_m_measure, pg_m_before, pg_m_past, pg_m_gain, pg_m_low, pg_m_high, pg_m_setpoint, pg_m_integral, pg_m_guard, pg_m_share, pg_m_mode, pg_m_hand, pg_m_follows, pg_m_hasMaster, pg_m_isStarved, pg_m_held, pg_m_sum, pg_m_lastError, pg_m_lastRate, pg_m_goesOn, pg_m_points, pg_m_at, pg_m_then, pg_m_experiment, pg_m_center, pg_m_height, pg_m_band, pg_m_isUp, pg_m_gone, pg_m_risings, pg_m_second, pg_m_greatest, pg_m_least, pg_m_period, pg_m_swing, pg_ms_thrown, pr]
theorem sq_m_low (M : MT) : ym_m_low (stepM M) = ym_m_low (pq 2 (pr 1 (pr 0 0 M) (pq 0 0 M)) (pq 1 (pr 0 0 M) (pq 0 0 M))) := by
  rw [ps_m_low]
  simp only [sM_m_low, f_X6_sample_m_gain, f_X6_sample_m_gone, f_X6_sample_m_isStarved, f_X6_sample_m_lastRate, f_X6_sample_ms_samples, f_X6_sample_v10, f_X6_sample_v11, f_X6_sample_v12, f_X6_sample_v13, f_X6_sample_v14, f_X6_sample_v21, f_X6_sample_v22, f_X6_sample_v23, f_X6_sample_v24, f_X6_sample_v25, f_X6_sample_v26, f_X6_sample_v27, f_X6_sample_v28, f_X6_sample_v29, f_X6_sample_v30, f_X6_sample_v31, f_X6_sample_v32, f_X6_sample_v33, f_X6_sample_v34, f_X6_sample_v35, f_X6_sample_v36, f_X6_sample_v4, f_X6_sample_v5, f_X6_sample_v6, f_X6_sample_v7, f_X6_sample_v8, f_X6_sample_v9, pg_ms_samples, pg_m_a1, pg_m_a2, pg_m_b, pg_m_deadTime, pg_m_load, pg_m_measure, pg_m_before, pg_m_past, pg_m_gain, pg_m_low, pg_m_high, pg_m_setpoint, pg_m_integral, pg_m_guard, pg_m_share, pg_m_mode, pg_m_hand, pg_m_follows, pg_m_hasMaster, pg_m_isStarved, pg_m_held, pg_m_sum, pg_m_lastError, pg_m_lastRate, pg_m_goesOn, pg_m_points, pg_m_at, pg_m_then, pg_m_experiment, pg_m_center, pg_m_height, pg_m_band, pg_m_isUp, pg_m_gone, pg_m_risings, pg_m_second, pg_m_greatest, pg_m_least, pg_m_period, pg_m_swing, pg_ms_thrown, pr]
theorem sq_m_high (M : MT) : ym_m_high (stepM M) = ym_m_high (pq 2 (pr 1 (pr 0 0 M) (pq 0 0 M)) (pq 1 (pr 0 0 M) (pq 0 0 M))) := by
  rw [ps_m_high]
  simp only [sM_m_high, f_X6_sample_m_gain, f_X6_sample_m_gone, f_X6_sample_m_isStarved, f_X6_sample_m_lastRate, f_X6_sample_ms_samples, f_X6_sample_v10, f_X6_sample_v11, f_X6_sample_v12, f_X6_sample_v13, f_X6_sample_v14, f_X6_sample_v21, f_X6_sample_v22, f_X6_sample_v23, f_X6_sample_v24, f_X6_sample_v25, f_X6_sample_v26, f_X6_sample_v27, f_X6_sample_v28, f_X6_sample_v29, f_X6_sample_v30, f_X6_sample_v31, f_X6_sample_v32, f_X6_sample_v33, f_X6_sample_v34, f_X6_sample_v35, f_X6_sample_v36, f_X6_sample_v4, f_X6_sample_v5, f_X6_sample_v6, f_X6_sample_v7, f_X6_sample_v8, f_X6_sample_v9, pg_ms_samples, pg_m_a1, pg_m_a2, pg_m_b, pg_m_deadTime, pg_m_load, pg_m_measure, pg_m_before, pg_m_past, pg_m_gain, pg_m_low, pg_m_high, pg_m_setpoint, pg_m_integral, pg_m_guard, pg_m_share, pg_m_mode, pg_m_hand, pg_m_follows, pg_m_hasMaster, pg_m_isStarved, pg_m_held, pg_m_sum, pg_m_lastError, pg_m_lastRate, pg_m_goesOn, pg_m_points, pg_m_at, pg_m_then, pg_m_experiment, pg_m_center, pg_m_height, pg_m_band, pg_m_isUp, pg_m_gone, pg_m_risings, pg_m_second, pg_m_greatest, pg_m_least, pg_m_period, pg_m_swing, pg_ms_thrown, pr]
theorem sq_m_setpoint (M : MT) : ym_m_setpoint (stepM M) = ym_m_setpoint (pq 2 (pr 1 (pr 0 0 M) (pq 0 0 M)) (pq 1 (pr 0 0 M) (pq 0 0 M))) := by
  rw [ps_m_setpoint]
  simp only [sM_m_setpoint, f_X6_sample_m_gain, f_X6_sample_m_gone, f_X6_sample_m_isStarved, f_X6_sample_m_lastRate, f_X6_sample_ms_samples, f_X6_sample_v10, f_X6_sample_v11, f_X6_sample_v12, f_X6_sample_v13, f_X6_sample_v14, f_X6_sample_v21, f_X6_sample_v22, f_X6_sample_v23, f_X6_sample_v24, f_X6_sample_v25, f_X6_sample_v26, f_X6_sample_v27, f_X6_sample_v28, f_X6_sample_v29, f_X6_sample_v30, f_X6_sample_v31, f_X6_sample_v32, f_X6_sample_v33, f_X6_sample_v34, f_X6_sample_v35, f_X6_sample_v36, f_X6_sample_v4, f_X6_sample_v5, f_X6_sample_v6, f_X6_sample_v7, f_X6_sample_v8, f_X6_sample_v9, pg_ms_samples, pg_m_a1, pg_m_a2, pg_m_b, pg_m_deadTime, pg_m_load, pg_m_measure, pg_m_before, pg_m_past, pg_m_gain, pg_m_low, pg_m_high, pg_m_setpoint, pg_m_integral, pg_m_guard, pg_m_share, pg_m_mode, pg_m_hand, pg_m_follows, pg_m_hasMaster, pg_m_isStarved, pg_m_held, pg_m_sum, pg_m_lastError, pg_m_lastRate, pg_m_goesOn, pg_m_points, pg_m_at, pg_m_then, pg_m_experiment, pg_m_center, pg_m_height, pg_m_band, pg_m_isUp, pg_m_gone, pg_m_risings, pg_m_second, pg_m_greatest, pg_m_least, pg_m_period, pg_m_swing, pg_ms_thrown, pr]
theorem sq_m_integral (M : MT) : ym_m_integral (stepM M) = ym_m_integral (pq 2 (pr 1 (pr 0 0 M) (pq 0 0 M)) (pq 1 (pr 0 0 M) (pq 0 0 M))) := by
  rw [ps_m_integral]
  simp only [sM_m_integral, f_X6_sample_m_gain, f_X6_sample_m_gone, f_X6_sample_m_isStarved, f_X6_sample_m_lastRate, f_X6_sample_ms_samples, f_X6_sample_v10, f_X6_sample_v11, f_X6_sample_v12, f_X6_sample_v13, f_X6_sample_v14, f_X6_sample_v21, f_X6_sample_v22, f_X6_sample_v23, f_X6_sample_v24, f_X6_sample_v25, f_X6_sample_v26, f_X6_sample_v27, f_X6_sample_v28, f_X6_sample_v29, f_X6_sample_v30, f_X6_sample_v31, f_X6_sample_v32, f_X6_sample_v33, f_X6_sample_v34, f_X6_sample_v35, f_X6_sample_v36, f_X6_sample_v4, f_X6_sample_v5, f_X6_sample_v6, f_X6_sample_v7, f_X6_sample_v8, f_X6_sample_v9, pg_ms_samples, pg_m_a1, pg_m_a2, pg_m_b, pg_m_deadTime, pg_m_load, pg_m_measure, pg_m_before, pg_m_past, pg_m_gain, pg_m_low, pg_m_high, pg_m_setpoint, pg_m_integral, pg_m_guard, pg_m_share, pg_m_mode, pg_m_hand, pg_m_follows, pg_m_hasMaster, pg_m_isStarved, pg_m_held, pg_m_sum, pg_m_lastError, pg_m_lastRate, pg_m_goesOn, pg_m_points, pg_m_at, pg_m_then, pg_m_experiment, pg_m_center, pg_m_height, pg_m_band, pg_m_isUp, pg_m_gone, pg_m_risings, pg_m_second, pg_m_greatest, pg_m_least, pg_m_period, pg_m_swing, pg_ms_thrown, pr]
theorem sq_m_guard (M : MT) : ym_m_guard (stepM M) = ym_m_guard (pq 2 (pr 1 (pr 0 0 M) (pq 0 0 M)) (pq 1 (pr 0 0 M) (pq 0 0 M))) := by
  rw [ps_m_guard]
  simp only [sM_m_guard, f_X6_sample_m_gain, f_X6_sample_m_gone, f_X6_sample_m_isStarved, f_X6_sample_m_lastRate, f_X6_sample_ms_samples, f_X6_sample_v10, f_X6_sample_v11, f_X6_sample_v12, f_X6_sample_v13, f_X6_sample_v14, f_X6_sample_v21, f_X6_sample_v22, f_X6_sample_v23, f_X6_sample_v24, f_X6_sample_v25, f_X6_sample_v26, f_X6_sample_v27, f_X6_sample_v28, f_X6_sample_v29, f_X6_sample_v30, f_X6_sample_v31, f_X6_sample_v32, f_X6_sample_v33, f_X6_sample_v34, f_X6_sample_v35, f_X6_sample_v36, f_X6_sample_v4, f_X6_sample_v5, f_X6_sample_v6, f_X6_sample_v7, f_X6_sample_v8, f_X6_sample_v9, pg_ms_samples, pg_m_a1, pg_m_a2, pg_m_b, pg_m_deadTime, pg_m_load, pg_m_measure, pg_m_before, pg_m_past, pg_m_gain, pg_m_low, pg_m_high, pg_m_setpoint, pg_m_integral, pg_m_guard, pg_m_share, pg_m_mode, pg_m_hand, pg_m_follows, pg_m_hasMaster, pg_m_isStarved, pg_m_held, pg_m_sum, pg_m_lastError, pg_m_lastRate, pg_m_goesOn, pg_m_points, pg_m_at, pg_m_then, pg_m_experiment, pg_m_center, pg_m_height, pg_m_band, pg_m_isUp, pg_m_gone, pg_m_risings, pg_m_second, pg_m_greatest, pg_m_least, pg_m_period, pg_m_swing, pg_ms_thrown, pr]
theorem sq_m_share (M : MT) : ym_m_share (stepM M) = ym_m_share (pq 2 (pr 1 (pr 0 0 M) (pq 0 0 M)) (pq 1 (pr 0 0 M) (pq 0 0 M))) := by
  rw [ps_m_share]
  simp only [sM_m_share, f_X6_sample_m_gain, f_X6_sample_m_gone, f_X6_sample_m_isStarved, f_X6_sample_m_lastRate, f_X6_sample_ms_samples, f_X6_sample_v10, f_X6_sample_v11, f_X6_sample_v12, f_X6_sample_v13, f_X6_sample_v14, f_X6_sample_v21, f_X6_sample_v22, f_X6_sample_v23, f_X6_sample_v24, f_X6_sample_v25, f_X6_sample_v26, f_X6_sample_v27, f_X6_sample_v28, f_X6_sample_v29, f_X6_sample_v30, f_X6_sample_v31, f_X6_sample_v32, f_X6_sample_v33, f_X6_sample_v34, f_X6_sample_v35, f_X6_sample_v36, f_X6_sample_v4, f_X6_sample_v5, f_X6_sample_v6, f_X6_sample_v7, f_X6_sample_v8, f_X6_sample_v9, pg_ms_samples, pg_m_a1, pg_m_a2, pg_m_b, pg_m_deadTime, pg_m_load, pg_m_measure, pg_m_before, pg_m_past, pg_m_gain, pg_m_low, pg_m_high, pg_m_setpoint, pg_m_integral, pg_m_guard, pg_m_share, pg_m_mode, pg_m_hand, pg_m_follows, pg_m_hasMaster, pg_m_isStarved, pg_m_held, pg_m_sum, pg_m_lastError, pg_m_lastRate, pg_m_goesOn, pg_m_points, pg_m_at, pg_m_then, pg_m_experiment, pg_m_center, pg_m_height, pg_m_band, pg_m_isUp, pg_m_gone, pg_m_risings, pg_m_second, pg_m_greatest, pg_m_least, pg_m_period, pg_m_swing, pg_ms_thrown, pr]
theorem sq_m_mode (M : MT) : ym_m_mode (stepM M) = ym_m_mode (pq 2 (pr 1 (pr 0 0 M) (pq 0 0 M)) (pq 1 (pr 0 0 M) (pq 0 0 M))) := by
  rw [ps_m_mode]
  simp only [sM_m_mode, f_X6_sample_m_gain, f_X6_sample_m_gone, f_X6_sample_m_isStarved, f_X6_sample_m_lastRate, f_X6_sample_ms_samples, f_X6_sample_v10, f_X6_sample_v11, f_X6_sample_v12, f_X6_sample_v13, f_X6_sample_v14, f_X6_sample_v21, f_X6_sample_v22, f_X6_sample_v23, f_X6_sample_v24, f_X6_sample_v25, f_X6_sample_v26, f_X6_sample_v27, f_X6_sample_v28, f_X6_sample_v29, f_X6_sample_v30, f_X6_sample_v31, f_X6_sample_v32, f_X6_sample_v33, f_X6_sample_v34, f_X6_sample_v35, f_X6_sample_v36, f_X6_sample_v4, f_X6_sample_v5, f_X6_sample_v6, f_X6_sample_v7, f_X6_sample_v8, f_X6_sample_v9, pg_ms_samples, pg_m_a1, pg_m_a2, pg_m_b, pg_m_deadTime, pg_m_load, pg_m_measure, pg_m_before, pg_m_past, pg_m_gain, pg_m_low, pg_m_high, pg_m_setpoint, pg_m_integral, pg_m_guard, pg_m_share, pg_m_mode, pg_m_hand, pg_m_follows, pg_m_hasMaster, pg_m_isStarved, pg_m_held, pg_m_sum, pg_m_lastError, pg_m_lastRate, pg_m_goesOn, pg_m_points, pg_m_at, pg_m_then, pg_m_experiment, pg_m_center, pg_m_height, pg_m_band, pg_m_isUp, pg_m_gone, pg_m_risings, pg_m_second, pg_m_greatest, pg_m_least, pg_m_period, pg_m_swing, pg_ms_thrown, pr]
theorem sq_m_hand (M : MT) : ym_m_hand (stepM M) = ym_m_hand (pq 2 (pr 1 (pr 0 0 M) (pq 0 0 M)) (pq 1 (pr 0 0 M) (pq 0 0 M))) := by
  rw [ps_m_hand]
  simp only [sM_m_hand, f_X6_sample_m_gain, f_X6_sample_m_gone, f_X6_sample_m_isStarved, f_X6_sample_m_lastRate, f_X6_sample_ms_samples, f_X6_sample_v10, f_X6_sample_v11, f_X6_sample_v12, f_X6_sample_v13, f_X6_sample_v14, f_X6_sample_v21, f_X6_sample_v22, f_X6_sample_v23, f_X6_sample_v24, f_X6_sample_v25, f_X6_sample_v26, f_X6_sample_v27, f_X6_sample_v28, f_X6_sample_v29, f_X6_sample_v30, f_X6_sample_v31, f_X6_sample_v32, f_X6_sample_v33, f_X6_sample_v34, f_X6_sample_v35, f_X6_sample_v36, f_X6_sample_v4, f_X6_sample_v5, f_X6_sample_v6, f_X6_sample_v7, f_X6_sample_v8, f_X6_sample_v9, pg_ms_samples, pg_m_a1, pg_m_a2, pg_m_b, pg_m_deadTime, pg_m_load, pg_m_measure, pg_m_before, pg_m_past, pg_m_gain, pg_m_low, pg_m_high, pg_m_setpoint, pg_m_integral, pg_m_guard, pg_m_share, pg_m_mode, pg_m_hand, pg_m_follows, pg_m_hasMaster, pg_m_isStarved, pg_m_held, pg_m_sum, pg_m_lastError, pg_m_lastRate, pg_m_goesOn, pg_m_points, pg_m_at, pg_m_then, pg_m_experiment, pg_m_center, pg_m_height, pg_m_band, pg_m_isUp, pg_m_gone, pg_m_risings, pg_m_second, pg_m_greatest, pg_m_least, pg_m_period, pg_m_swing, pg_ms_thrown, pr]
theorem sq_m_follows (M : MT) : ym_m_follows (stepM M) = ym_m_follows (pq 2 (pr 1 (pr 0 0 M) (pq 0 0 M)) (pq 1 (pr 0 0 M) (pq 0 0 M))) := by
  rw [ps_m_follows]
  simp only [sM_m_follows, f_X6_sample_m_gain, f_X6_sample_m_gone, f_X6_sample_m_isStarved, f_X6_sample_m_lastRate, f_X6_sample_ms_samples, f_X6_sample_v10, f_X6_sample_v11, f_X6_sample_v12, f_X6_sample_v13, f_X6_sample_v14, f_X6_sample_v21, f_X6_sample_v22, f_X6_sample_v23, f_X6_sample_v24, f_X6_sample_v25, f_X6_sample_v26, f_X6_sample_v27, f_X6_sample_v28, f_X6_sample_v29, f_X6_sample_v30, f_X6_sample_v31, f_X6_sample_v32, f_X6_sample_v33, f_X6_sample_v34, f_X6_sample_v35, f_X6_sample_v36, f_X6_sample_v4, f_X6_sample_v5, f_X6_sample_v6, f_X6_sample_v7, f_X6_sample_v8, f_X6_sample_v9, pg_ms_samples, pg_m_a1, pg_m_a2, pg_m_b, pg_m_deadTime, pg_m_load, pg_m_measure, pg_m_before, pg_m_past, pg_m_gain, pg_m_low, pg_m_high, pg_m_setpoint, pg_m_integral, pg_m_guard, pg_m_share, pg_m_mode, pg_m_hand, pg_m_follows, pg_m_hasMaster, pg_m_isStarved, pg_m_held, pg_m_sum, pg_m_lastError, pg_m_lastRate, pg_m_goesOn, pg_m_points, pg_m_at, pg_m_then, pg_m_experiment, pg_m_center, pg_m_height, pg_m_band, pg_m_isUp, pg_m_gone, pg_m_risings, pg_m_second, pg_m_greatest, pg_m_least, pg_m_period, pg_m_swing, pg_ms_thrown, pr]
theorem sq_m_hasMaster (M : MT) : ym_m_hasMaster (stepM M) = ym_m_hasMaster (pq 2 (pr 1 (pr 0 0 M) (pq 0 0 M)) (pq 1 (pr 0 0 M) (pq 0 0 M))) := by
  rw [ps_m_hasMaster]
  simp only [sM_m_hasMaster, f_X6_sample_m_gain, f_X6_sample_m_gone, f_X6_sample_m_isStarved, f_X6_sample_m_lastRate, f_X6_sample_ms_samples, f_X6_sample_v10, f_X6_sample_v11, f_X6_sample_v12, f_X6_sample_v13, f_X6_sample_v14, f_X6_sample_v21, f_X6_sample_v22, f_X6_sample_v23, f_X6_sample_v24, f_X6_sample_v25, f_X6_sample_v26, f_X6_sample_v27, f_X6_sample_v28, f_X6_sample_v29, f_X6_sample_v30, f_X6_sample_v31, f_X6_sample_v32, f_X6_sample_v33, f_X6_sample_v34, f_X6_sample_v35, f_X6_sample_v36, f_X6_sample_v4, f_X6_sample_v5, f_X6_sample_v6, f_X6_sample_v7, f_X6_sample_v8, f_X6_sample_v9, pg_ms_samples, pg_m_a1, pg_m_a2, pg_m_b, pg_m_deadTime, pg_m_load, pg_m_measure, pg_m_before, pg_m_past, pg_m_gain, pg_m_low, pg_m_high, pg_m_setpoint, pg_m_integral, pg_m_guard, pg_m_share, pg_m_mode, pg_m_hand, pg_m_follows, pg_m_hasMaster, pg_m_isStarved, pg_m_held, pg_m_sum, pg_m_lastError, pg_m_lastRate, pg_m_goesOn, pg_m_points, pg_m_at, pg_m_then, pg_m_experiment, pg_m_center, pg_m_height, pg_m_band, pg_m_isUp, pg_m_gone, pg_m_risings, pg_m_second, pg_m_greatest, pg_m_least, pg_m_period, pg_m_swing, pg_ms_thrown, pr]
theorem sq_m_isStarved (M : MT) : ym_m_isStarved (stepM M) = ym_m_isStarved (pq 2 (pr 1 (pr 0 0 M) (pq 0 0 M)) (pq 1 (pr 0 0 M) (pq 0 0 M))) := by
  rw [ps_m_isStarved]
  simp only [sM_m_isStarved, f_X6_sample_m_gain, f_X6_sample_m_gone, f_X6_sample_m_isStarved, f_X6_sample_m_lastRate, f_X6_sample_ms_samples, f_X6_sample_v10, f_X6_sample_v11, f_X6_sample_v12, f_X6_sample_v13, f_X6_sample_v14, f_X6_sample_v21, f_X6_sample_v22, f_X6_sample_v23, f_X6_sample_v24, f_X6_sample_v25, f_X6_sample_v26, f_X6_sample_v27, f_X6_sample_v28, f_X6_sample_v29, f_X6_sample_v30, f_X6_sample_v31, f_X6_sample_v32, f_X6_sample_v33, f_X6_sample_v34, f_X6_sample_v35, f_X6_sample_v36, f_X6_sample_v4, f_X6_sample_v5, f_X6_sample_v6, f_X6_sample_v7, f_X6_sample_v8, f_X6_sample_v9, pg_ms_samples, pg_m_a1, pg_m_a2, pg_m_b, pg_m_deadTime, pg_m_load, pg_m_measure, pg_m_before, pg_m_past, pg_m_gain, pg_m_low, pg_m_high, pg_m_setpoint, pg_m_integral, pg_m_guard, pg_m_share, pg_m_mode, pg_m_hand, pg_m_follows, pg_m_hasMaster, pg_m_isStarved, pg_m_held, pg_m_sum, pg_m_lastError, pg_m_lastRate, pg_m_goesOn, pg_m_points, pg_m_at, pg_m_then, pg_m_experiment, pg_m_center, pg_m_height, pg_m_band, pg_m_isUp, pg_m_gone, pg_m_risings, pg_m_second, pg_m_greatest, pg_m_least, pg_m_period, pg_m_swing, pg_ms_thrown, pr]
theorem sq_m_held (M : MT) : ym_m_held (stepM M) = ym_m_held (pq 2 (pr 1 (pr 0 0 M) (pq 0 0 M)) (pq 1 (pr 0 0 M) (pq 0 0 M))) := by
  rw [ps_m_held]
  simp only [sM_m_held, f_X6_sample_m_gain, f_X6_sample_m_gone, f_X6_sample_m_isStarved, f_X6_sample_m_lastRate, f_X6_sample_ms_samples, f_X6_sample_v10, f_X6_sample_v11, f_X6_sample_v12, f_X6_sample_v13, f_X6_sample_v14, f_X6_sample_v21, f_X6_sample_v22, f_X6_sample_v23, f_X6_sample_v24, f_X6_sample_v25, f_X6_sample_v26, f_X6_sample_v27, f_X6_sample_v28, f_X6_sample_v29, f_X6_sample_v30, f_X6_sample_v31, f_X6_sample_v32, f_X6_sample_v33, f_X6_sample_v34, f_X6_sample_v35, f_X6_sample_v36, f_X6_sample_v4, f_X6_sample_v5, f_X6_sample_v6, f_X6_sample_v7, f_X6_sample_v8, f_X6_sample_v9, pg_ms_samples, pg_m_a1, pg_m_a2, pg_m_b, pg_m_deadTime, pg_m_load, pg_m_measure, pg_m_before, pg_m_past, pg_m_gain, pg_m_low, pg_m_high, pg_m_setpoint, pg_m_integral, pg_m_guard, pg_m_share, pg_m_mode, pg_m_hand, pg_m_follows, pg_m_hasMaster, pg_m_isStarved, pg_m_held, pg_m_sum, pg_m_lastError, pg_m_lastRate, pg_m_goesOn, pg_m_points, pg_m_at, pg_m_then, pg_m_experiment, pg_m_center, pg_m_height, pg_m_band, pg_m_isUp, pg_m_gone, pg_m_risings, pg_m_second, pg_m_greatest, pg_m_least, pg_m_period, pg_m_swing, pg_ms_thrown, pr]
theorem sq_m_sum (M : MT) : ym_m_sum (stepM M) = ym_m_sum (pq 2 (pr 1 (pr 0 0 M) (pq 0 0 M)) (pq 1 (pr 0 0 M) (pq 0 0 M))) := by
  rw [ps_m_sum]
  simp only [sM_m_sum, f_X6_sample_m_gain, f_X6_sample_m_gone, f_X6_sample_m_isStarved, f_X6_sample_m_lastRate, f_X6_sample_ms_samples, f_X6_sample_v10, f_X6_sample_v11, f_X6_sample_v12, f_X6_sample_v13, f_X6_sample_v14, f_X6_sample_v21, f_X6_sample_v22, f_X6_sample_v23, f_X6_sample_v24, f_X6_sample_v25, f_X6_sample_v26, f_X6_sample_v27, f_X6_sample_v28, f_X6_sample_v29, f_X6_sample_v30, f_X6_sample_v31, f_X6_sample_v32, f_X6_sample_v33, f_X6_sample_v34, f_X6_sample_v35, f_X6_sample_v36, f_X6_sample_v4, f_X6_sample_v5, f_X6_sample_v6, f_X6_sample_v7, f_X6_sample_v8, f_X6_sample_v9, pg_ms_samples, pg_m_a1, pg_m_a2, pg_m_b, pg_m_deadTime, pg_m_load, pg_m_measure, pg_m_before, pg_m_past, pg_m_gain, pg_m_low, pg_m_high, pg_m_setpoint, pg_m_integral, pg_m_guard, pg_m_share, pg_m_mode, pg_m_hand, pg_m_follows, pg_m_hasMaster, pg_m_isStarved, pg_m_held, pg_m_sum, pg_m_lastError, pg_m_lastRate, pg_m_goesOn, pg_m_points, pg_m_at, pg_m_then, pg_m_experiment, pg_m_center, pg_m_height, pg_m_band, pg_m_isUp, pg_m_gone, pg_m_risings, pg_m_second, pg_m_greatest, pg_m_least, pg_m_period, pg_m_swing, pg_ms_thrown, pr]
theorem sq_m_lastError (M : MT) : ym_m_lastError (stepM M) = ym_m_lastError (pq 2 (pr 1 (pr 0 0 M) (pq 0 0 M)) (pq 1 (pr 0 0 M) (pq 0 0 M))) := by
  rw [ps_m_lastError]
  simp only [sM_m_lastError, f_X6_sample_m_gain, f_X6_sample_m_gone, f_X6_sample_m_isStarved, f_X6_sample_m_lastRate, f_X6_sample_ms_samples, f_X6_sample_v10, f_X6_sample_v11, f_X6_sample_v12, f_X6_sample_v13, f_X6_sample_v14, f_X6_sample_v21, f_X6_sample_v22, f_X6_sample_v23, f_X6_sample_v24, f_X6_sample_v25, f_X6_sample_v26, f_X6_sample_v27, f_X6_sample_v28, f_X6_sample_v29, f_X6_sample_v30, f_X6_sample_v31, f_X6_sample_v32, f_X6_sample_v33, f_X6_sample_v34, f_X6_sample_v35, f_X6_sample_v36, f_X6_sample_v4, f_X6_sample_v5, f_X6_sample_v6, f_X6_sample_v7, f_X6_sample_v8, f_X6_sample_v9, pg_ms_samples, pg_m_a1, pg_m_a2, pg_m_b, pg_m_deadTime, pg_m_load, pg_m_measure, pg_m_before, pg_m_past, pg_m_gain, pg_m_low, pg_m_high, pg_m_setpoint, pg_m_integral, pg_m_guard, pg_m_share, pg_m_mode, pg_m_hand, pg_m_follows, pg_m_hasMaster, pg_m_isStarved, pg_m_held, pg_m_sum, pg_m_lastError, pg_m_lastRate, pg_m_goesOn, pg_m_points, pg_m_at, pg_m_then, pg_m_experiment, pg_m_center, pg_m_height, pg_m_band, pg_m_isUp, pg_m_gone, pg_m_risings, pg_m_second, pg_m_greatest, pg_m_least, pg_m_period, pg_m_swing, pg_ms_thrown, pr]
theorem sq_m_lastRate (M : MT) : ym_m_lastRate (stepM M) = ym_m_lastRate (pq 2 (pr 1 (pr 0 0 M) (pq 0 0 M)) (pq 1 (pr 0 0 M) (pq 0 0 M))) := by
  rw [ps_m_lastRate]
  simp only [sM_m_lastRate, f_X6_sample_m_gain, f_X6_sample_m_gone, f_X6_sample_m_isStarved, f_X6_sample_m_lastRate, f_X6_sample_ms_samples, f_X6_sample_v10, f_X6_sample_v11, f_X6_sample_v12, f_X6_sample_v13, f_X6_sample_v14, f_X6_sample_v21, f_X6_sample_v22, f_X6_sample_v23, f_X6_sample_v24, f_X6_sample_v25, f_X6_sample_v26, f_X6_sample_v27, f_X6_sample_v28, f_X6_sample_v29, f_X6_sample_v30, f_X6_sample_v31, f_X6_sample_v32, f_X6_sample_v33, f_X6_sample_v34, f_X6_sample_v35, f_X6_sample_v36, f_X6_sample_v4, f_X6_sample_v5, f_X6_sample_v6, f_X6_sample_v7, f_X6_sample_v8, f_X6_sample_v9, pg_ms_samples, pg_m_a1, pg_m_a2, pg_m_b, pg_m_deadTime, pg_m_load, pg_m_measure, pg_m_before, pg_m_past, pg_m_gain, pg_m_low, pg_m_high, pg_m_setpoint, pg_m_integral, pg_m_guard, pg_m_share, pg_m_mode, pg_m_hand, pg_m_follows, pg_m_hasMaster, pg_m_isStarved, pg_m_held, pg_m_sum, pg_m_lastError, pg_m_lastRate, pg_m_goesOn, pg_m_points, pg_m_at, pg_m_then, pg_m_experiment, pg_m_center, pg_m_height, pg_m_band, pg_m_isUp, pg_m_gone, pg_m_risings, pg_m_second, pg_m_greatest, pg_m_least, pg_m_period, pg_m_swing, pg_ms_thrown, pr]
theorem sq_m_goesOn (M : MT) : ym_m_goesOn (stepM M) = ym_m_goesOn (pq 2 (pr 1 (pr 0 0 M) (pq 0 0 M)) (pq 1 (pr 0 0 M) (pq 0 0 M))) := by
  rw [ps_m_goesOn]
  simp only [sM_m_goesOn, f_X6_sample_m_gain, f_X6_sample_m_gone, f_X6_sample_m_isStarved, f_X6_sample_m_lastRate, f_X6_sample_ms_samples, f_X6_sample_v10, f_X6_sample_v11, f_X6_sample_v12, f_X6_sample_v13, f_X6_sample_v14, f_X6_sample_v21, f_X6_sample_v22, f_X6_sample_v23, f_X6_sample_v24, f_X6_sample_v25, f_X6_sample_v26, f_X6_sample_v27, f_X6_sample_v28, f_X6_sample_v29, f_X6_sample_v30, f_X6_sample_v31, f_X6_sample_v32, f_X6_sample_v33, f_X6_sample_v34, f_X6_sample_v35, f_X6_sample_v36, f_X6_sample_v4, f_X6_sample_v5, f_X6_sample_v6, f_X6_sample_v7, f_X6_sample_v8, f_X6_sample_v9, pg_ms_samples, pg_m_a1, pg_m_a2, pg_m_b, pg_m_deadTime, pg_m_load, pg_m_measure, pg_m_before, pg_m_past, pg_m_gain, pg_m_low, pg_m_high, pg_m_setpoint, pg_m_integral, pg_m_guard, pg_m_share, pg_m_mode, pg_m_hand, pg_m_follows, pg_m_hasMaster, pg_m_isStarved, pg_m_held, pg_m_sum, pg_m_lastError, pg_m_lastRate, pg_m_goesOn, pg_m_points, pg_m_at, pg_m_then, pg_m_experiment, pg_m_center, pg_m_height, pg_m_band, pg_m_isUp, pg_m_gone, pg_m_risings, pg_m_second, pg_m_greatest, pg_m_least, pg_m_period, pg_m_swing, pg_ms_thrown, pr]
theorem sq_m_points (M : MT) : ym_m_points (stepM M) = ym_m_points (pq 2 (pr 1 (pr 0 0 M) (pq 0 0 M)) (pq 1 (pr 0 0 M) (pq 0 0 M))) := by
  rw [ps_m_points]
  simp only [sM_m_points, f_X6_sample_m_gain, f_X6_sample_m_gone, f_X6_sample_m_isStarved, f_X6_sample_m_lastRate, f_X6_sample_ms_samples, f_X6_sample_v10, f_X6_sample_v11, f_X6_sample_v12, f_X6_sample_v13, f_X6_sample_v14, f_X6_sample_v21, f_X6_sample_v22, f_X6_sample_v23, f_X6_sample_v24, f_X6_sample_v25, f_X6_sample_v26, f_X6_sample_v27, f_X6_sample_v28, f_X6_sample_v29, f_X6_sample_v30, f_X6_sample_v31, f_X6_sample_v32, f_X6_sample_v33, f_X6_sample_v34, f_X6_sample_v35, f_X6_sample_v36, f_X6_sample_v4, f_X6_sample_v5, f_X6_sample_v6, f_X6_sample_v7, f_X6_sample_v8, f_X6_sample_v9, pg_ms_samples, pg_m_a1, pg_m_a2, pg_m_b, pg_m_deadTime, pg_m_load, pg_m_measure, pg_m_before, pg_m_past, pg_m_gain, pg_m_low, pg_m_high, pg_m_setpoint, pg_m_integral, pg_m_guard, pg_m_share, pg_m_mode, pg_m_hand, pg_m_follows, pg_m_hasMaster, pg_m_isStarved, pg_m_held, pg_m_sum, pg_m_lastError, pg_m_lastRate, pg_m_goesOn, pg_m_points, pg_m_at, pg_m_then, pg_m_experiment, pg_m_center, pg_m_height, pg_m_band, pg_m_isUp, pg_m_gone, pg_m_risings, pg_m_second, pg_m_greatest, pg_m_least, pg_m_period, pg_m_swing, pg_ms_thrown, pr]
theorem sq_m_at (M : MT) : ym_m_at (stepM M) = ym_m_at (pq 2 (pr 1 (pr 0 0 M) (pq 0 0 M)) (pq 1 (pr 0 0 M) (pq 0 0 M))) := by
  rw [ps_m_at]
  simp only [sM_m_at, f_X6_sample_m_gain, f_X6_sample_m_gone, f_X6_sample_m_isStarved, f_X6_sample_m_lastRate, f_X6_sample_ms_samples, f_X6_sample_v10, f_X6_sample_v11, f_X6_sample_v12, f_X6_sample_v13, f_X6_sample_v14, f_X6_sample_v21, f_X6_sample_v22, f_X6_sample_v23, f_X6_sample_v24, f_X6_sample_v25, f_X6_sample_v26, f_X6_sample_v27, f_X6_sample_v28, f_X6_sample_v29, f_X6_sample_v30, f_X6_sample_v31, f_X6_sample_v32, f_X6_sample_v33, f_X6_sample_v34, f_X6_sample_v35, f_X6_sample_v36, f_X6_sample_v4, f_X6_sample_v5, f_X6_sample_v6, f_X6_sample_v7, f_X6_sample_v8, f_X6_sample_v9, pg_ms_samples, pg_m_a1, pg_m_a2, pg_m_b, pg_m_deadTime, pg_m_load, pg_m_measure, pg_m_before, pg_m_past, pg_m_gain, pg_m_low, pg_m_high, pg_m_setpoint, pg_m_integral, pg_m_guard, pg_m_share, pg_m_mode, pg_m_hand, pg_m_follows, pg_m_hasMaster, pg_m_isStarved, pg_m_held, pg_m_sum, pg_m_lastError, pg_m_lastRate, pg_m_goesOn, pg_m_points, pg_m_at, pg_m_then, pg_m_experiment, pg_m_center, pg_m_height, pg_m_band, pg_m_isUp, pg_m_gone, pg_m_risings, pg_m_second, pg_m_greatest, pg_m_least, pg_m_period, pg_m_swing, pg_ms_thrown, pr]
theorem sq_m_then (M : MT) : ym_m_then (stepM M) = ym_m_then (pq 2 (pr 1 (pr 0 0 M) (pq 0 0 M)) (pq 1 (pr 0 0 M) (pq 0 0 M))) := by
  rw [ps_m_then]
  simp only [sM_m_then, f_X6_sample_m_gain, f_X6_sample_m_gone, f_X6_sample_m_isStarved, f_X6_sample_m_lastRate, f_X6_sample_ms_samples, f_X6_sample_v10, f_X6_sample_v11, f_X6_sample_v12, f_X6_sample_v13, f_X6_sample_v14, f_X6_sample_v21, f_X6_sample_v22, f_X6_sample_v23, f_X6_sample_v24, f_X6_sample_v25, f_X6_sample_v26, f_X6_sample_v27, f_X6_sample_v28, f_X6_sample_v29, f_X6_sample_v30, f_X6_sample_v31, f_X6_sample_v32, f_X6_sample_v33, f_X6_sample_v34, f_X6_sample_v35, f_X6_sample_v36, f_X6_sample_v4, f_X6_sample_v5, f_X6_sample_v6, f_X6_sample_v7, f_X6_sample_v8, f_X6_sample_v9, pg_ms_samples, pg_m_a1, pg_m_a2, pg_m_b, pg_m_deadTime, pg_m_load, pg_m_measure, pg_m_before, pg_m_past, pg_m_gain, pg_m_low, pg_m_high, pg_m_setpoint, pg_m_integral, pg_m_guard, pg_m_share, pg_m_mode, pg_m_hand, pg_m_follows, pg_m_hasMaster, pg_m_isStarved, pg_m_held, pg_m_sum, pg_m_lastError, pg_m_lastRate, pg_m_goesOn, pg_m_points, pg_m_at, pg_m_then, pg_m_experiment, pg_m_center, pg_m_height, pg_m_band, pg_m_isUp, pg_m_gone, pg_m_risings, pg_m_second, pg_m_greatest, pg_m_least, pg_m_period, pg_m_swing, pg_ms_thrown, pr]
theorem sq_m_experiment (M : MT) : ym_m_experiment (stepM M) = ym_m_experiment (pq 2 (pr 1 (pr 0 0 M) (pq 0 0 M)) (pq 1 (pr 0 0 M) (pq 0 0 M))) := by
  rw [ps_m_experiment]
  simp only [sM_m_experiment, f_X6_sample_m_gain, f_X6_sample_m_gone, f_X6_sample_m_isStarved, f_X6_sample_m_lastRate, f_X6_sample_ms_samples, f_X6_sample_v10, f_X6_sample_v11, f_X6_sample_v12, f_X6_sample_v13, f_X6_sample_v14, f_X6_sample_v21, f_X6_sample_v22, f_X6_sample_v23, f_X6_sample_v24, f_X6_sample_v25, f_X6_sample_v26, f_X6_sample_v27, f_X6_sample_v28, f_X6_sample_v29, f_X6_sample_v30, f_X6_sample_v31, f_X6_sample_v32, f_X6_sample_v33, f_X6_sample_v34, f_X6_sample_v35, f_X6_sample_v36, f_X6_sample_v4, f_X6_sample_v5, f_X6_sample_v6, f_X6_sample_v7, f_X6_sample_v8, f_X6_sample_v9, pg_ms_samples, pg_m_a1, pg_m_a2, pg_m_b, pg_m_deadTime, pg_m_load, pg_m_measure, pg_m_before, pg_m_past, pg_m_gain, pg_m_low, pg_m_high, pg_m_setpoint, pg_m_integral, pg_m_guard, pg_m_share, pg_m_mode, pg_m_hand, pg_m_follows, pg_m_hasMaster, pg_m_isStarved, pg_m_held, pg_m_sum, pg_m_lastError, pg_m_lastRate, pg_m_goesOn, pg_m_points, pg_m_at, pg_m_then, pg_m_experiment, pg_m_center, pg_m_height, pg_m_band, pg_m_isUp, pg_m_gone, pg_m_risings, pg_m_second, pg_m_greatest, pg_m_least, pg_m_period, pg_m_swing, pg_ms_thrown, pr]
theorem sq_m_center (M : MT) : ym_m_center (stepM M) = ym_m_center (pq 2 (pr 1 (pr 0 0 M) (pq 0 0 M)) (pq 1 (pr 0 0 M) (pq 0 0 M))) := by
  rw [ps_m_center]
  simp only [sM_m_center, f_X6_sample_m_gain, f_X6_sample_m_gone, f_X6_sample_m_isStarved, f_X6_sample_m_lastRate, f_X6_sample_ms_samples, f_X6_sample_v10, f_X6_sample_v11, f_X6_sample_v12, f_X6_sample_v13, f_X6_sample_v14, f_X6_sample_v21, f_X6_sample_v22, f_X6_sample_v23, f_X6_sample_v24, f_X6_sample_v25, f_X6_sample_v26, f_X6_sample_v27, f_X6_sample_v28, f_X6_sample_v29, f_X6_sample_v30, f_X6_sample_v31, f_X6_sample_v32, f_X6_sample_v33, f_X6_sample_v34, f_X6_sample_v35, f_X6_sample_v36, f_X6_sample_v4, f_X6_sample_v5, f_X6_sample_v6, f_X6_sample_v7, f_X6_sample_v8, f_X6_sample_v9, pg_ms_samples, pg_m_a1, pg_m_a2, pg_m_b, pg_m_deadTime, pg_m_load, pg_m_measure, pg_m_before, pg_m_past, pg_m_gain, pg_m_low, pg_m_high, pg_m_setpoint, pg_m_integral, pg_m_guard, pg_m_share, pg_m_mode, pg_m_hand, pg_m_follows, pg_m_hasMaster, pg_m_isStarved, pg_m_held, pg_m_sum, pg_m_lastError, pg_m_lastRate, pg_m_goesOn, pg_m_points, pg_m_at, pg_m_then, pg_m_experiment, pg_m_center, pg_m_height, pg_m_band, pg_m_isUp, pg_m_gone, pg_m_risings, pg_m_second, pg_m_greatest, pg_m_least, pg_m_period, pg_m_swing, pg_ms_thrown, pr]
theorem sq_m_height (M : MT) : ym_m_height (stepM M) = ym_m_height (pq 2 (pr 1 (pr 0 0 M) (pq 0 0 M)) (pq 1 (pr 0 0 M) (pq 0 0 M))) := by
  rw [ps_m_height]
  simp only [sM_m_height, f_X6_sample_m_gain, f_X6_sample_m_gone, f_X6_sample_m_isStarved, f_X6_sample_m_lastRate, f_X6_sample_ms_samples, f_X6_sample_v10, f_X6_sample_v11, f_X6_sample_v12, f_X6_sample_v13, f_X6_sample_v14, f_X6_sample_v21, f_X6_sample_v22, f_X6_sample_v23, f_X6_sample_v24, f_X6_sample_v25, f_X6_sample_v26, f_X6_sample_v27, f_X6_sample_v28, f_X6_sample_v29, f_X6_sample_v30, f_X6_sample_v31, f_X6_sample_v32, f_X6_sample_v33, f_X6_sample_v34, f_X6_sample_v35, f_X6_sample_v36, f_X6_sample_v4, f_X6_sample_v5, f_X6_sample_v6, f_X6_sample_v7, f_X6_sample_v8, f_X6_sample_v9, pg_ms_samples, pg_m_a1, pg_m_a2, pg_m_b, pg_m_deadTime, pg_m_load, pg_m_measure, pg_m_before, pg_m_past, pg_m_gain, pg_m_low, pg_m_high, pg_m_setpoint, pg_m_integral, pg_m_guard, pg_m_share, pg_m_mode, pg_m_hand, pg_m_follows, pg_m_hasMaster, pg_m_isStarved, pg_m_held, pg_m_sum, pg_m_lastError, pg_m_lastRate, pg_m_goesOn, pg_m_points, pg_m_at, pg_m_then, pg_m_experiment, pg_m_center, pg_m_height, pg_m_band, pg_m_isUp, pg_m_gone, pg_m_risings, pg_m_second, pg_m_greatest, pg_m_least, pg_m_period, pg_m_swing, pg_ms_thrown, pr]
theorem sq_m_band (M : MT) : ym_m_band (stepM M) = ym_m_band (pq 2 (pr 1 (pr 0 0 M) (pq 0 0 M)) (pq 1 (pr 0 0 M) (pq 0 0 M))) := by
  rw [ps_m_band]
  simp only [sM_m_band, f_X6_sample_m_gain, f_X6_sample_m_gone, f_X6_sample_m_isStarved, f_X6_sample_m_lastRate, f_X6_sample_ms_samples, f_X6_sample_v10, f_X6_sample_v11, f_X6_sample_v12, f_X6_sample_v13, f_X6_sample_v14, f_X6_sample_v21, f_X6_sample_v22, f_X6_sample_v23, f_X6_sample_v24, f_X6_sample_v25, f_X6_sample_v26, f_X6_sample_v27, f_X6_sample_v28, f_X6_sample_v29, f_X6_sample_v30, f_X6_sample_v31, f_X6_sample_v32, f_X6_sample_v33, f_X6_sample_v34, f_X6_sample_v35, f_X6_sample_v36, f_X6_sample_v4, f_X6_sample_v5, f_X6_sample_v6, f_X6_sample_v7, f_X6_sample_v8, f_X6_sample_v9, pg_ms_samples, pg_m_a1, pg_m_a2, pg_m_b, pg_m_deadTime, pg_m_load, pg_m_measure, pg_m_before, pg_m_past, pg_m_gain, pg_m_low, pg_m_high, pg_m_setpoint, pg_m_integral, pg_m_guard, pg_m_share, pg_m_mode, pg_m_hand, pg_m_follows, pg_m_hasMaster, pg_m_isStarved, pg_m_held, pg_m_sum, pg_m_lastError, pg_m_lastRate, pg_m_goesOn, pg_m_points, pg_m_at, pg_m_then, pg_m_experiment, pg_m_center, pg_m_height, pg_m_band, pg_m_isUp, pg_m_gone, pg_m_risings, pg_m_second, pg_m_greatest, pg_m_least, pg_m_period, pg_m_swing, pg_ms_thrown, pr]
theorem sq_m_isUp (M : MT) : ym_m_isUp (stepM M) = ym_m_isUp (pq 2 (pr 1 (pr 0 0 M) (pq 0 0 M)) (pq 1 (pr 0 0 M) (pq 0 0 M))) := by
  rw [ps_m_isUp]
  simp only [sM_m_isUp, f_X6_sample_m_gain, f_X6_sample_m_gone, f_X6_sample_m_isStarved, f_X6_sample_m_lastRate, f_X6_sample_ms_samples, f_X6_sample_v10, f_X6_sample_v11, f_X6_sample_v12, f_X6_sample_v13, f_X6_sample_v14, f_X6_sample_v21, f_X6_sample_v22, f_X6_sample_v23, f_X6_sample_v24, f_X6_sample_v25, f_X6_sample_v26, f_X6_sample_v27, f_X6_sample_v28, f_X6_sample_v29, f_X6_sample_v30, f_X6_sample_v31, f_X6_sample_v32, f_X6_sample_v33, f_X6_sample_v34, f_X6_sample_v35, f_X6_sample_v36, f_X6_sample_v4, f_X6_sample_v5, f_X6_sample_v6, f_X6_sample_v7, f_X6_sample_v8, f_X6_sample_v9, pg_ms_samples, pg_m_a1, pg_m_a2, pg_m_b, pg_m_deadTime, pg_m_load, pg_m_measure, pg_m_before, pg_m_past, pg_m_gain, pg_m_low, pg_m_high, pg_m_setpoint, pg_m_integral, pg_m_guard, pg_m_share, pg_m_mode, pg_m_hand, pg_m_follows, pg_m_hasMaster, pg_m_isStarved, pg_m_held, pg_m_sum, pg_m_lastError, pg_m_lastRate, pg_m_goesOn, pg_m_points, pg_m_at, pg_m_then, pg_m_experiment, pg_m_center, pg_m_height, pg_m_band, pg_m_isUp, pg_m_gone, pg_m_risings, pg_m_second, pg_m_greatest, pg_m_least, pg_m_period, pg_m_swing, pg_ms_thrown, pr]
theorem sq_m_gone (M : MT) : ym_m_gone (stepM M) = ym_m_gone (pq 2 (pr 1 (pr 0 0 M) (pq 0 0 M)) (pq 1 (pr 0 0 M) (pq 0 0 M))) := by
  rw [ps_m_gone]
  simp only [sM_m_gone, f_X6_sample_m_gain, f_X6_sample_m_gone, f_X6_sample_m_isStarved, f_X6_sample_m_lastRate, f_X6_sample_ms_samples, f_X6_sample_v10, f_X6_sample_v11, f_X6_sample_v12, f_X6_sample_v13, f_X6_sample_v14, f_X6_sample_v21, f_X6_sample_v22, f_X6_sample_v23, f_X6_sample_v24, f_X6_sample_v25, f_X6_sample_v26, f_X6_sample_v27, f_X6_sample_v28, f_X6_sample_v29, f_X6_sample_v30, f_X6_sample_v31, f_X6_sample_v32, f_X6_sample_v33, f_X6_sample_v34, f_X6_sample_v35, f_X6_sample_v36, f_X6_sample_v4, f_X6_sample_v5, f_X6_sample_v6, f_X6_sample_v7, f_X6_sample_v8, f_X6_sample_v9, pg_ms_samples, pg_m_a1, pg_m_a2, pg_m_b, pg_m_deadTime, pg_m_load, pg_m_measure, pg_m_before, pg_m_past, pg_m_gain, pg_m_low, pg_m_high, pg_m_setpoint, pg_m_integral, pg_m_guard, pg_m_share, pg_m_mode, pg_m_hand, pg_m_follows, pg_m_hasMaster, pg_m_isStarved, pg_m_held, pg_m_sum, pg_m_lastError, pg_m_lastRate, pg_m_goesOn, pg_m_points, pg_m_at, pg_m_then, pg_m_experiment, pg_m_center, pg_m_height, pg_m_band, pg_m_isUp, pg_m_gone, pg_m_risings, pg_m_second, pg_m_greatest, pg_m_least, pg_m_period, pg_m_swing, pg_ms_thrown, pr]
theorem sq_m_risings (M : MT) : ym_m_risings (stepM M) = ym_m_risings (pq 2 (pr 1 (pr 0 0 M) (pq 0 0 M)) (pq 1 (pr 0 0 M) (pq 0 0 M))) := by
  rw [ps_m_risings]
  simp only [sM_m_risings, f_X6_sample_m_gain, f_X6_sample_m_gone, f_X6_sample_m_isStarved, f_X6_sample_m_lastRate, f_X6_sample_ms_samples, f_X6_sample_v10, f_X6_sample_v11, f_X6_sample_v12, f_X6_sample_v13, f_X6_sample_v14, f_X6_sample_v21, f_X6_sample_v22, f_X6_sample_v23, f_X6_sample_v24, f_X6_sample_v25, f_X6_sample_v26, f_X6_sample_v27, f_X6_sample_v28, f_X6_sample_v29, f_X6_sample_v30, f_X6_sample_v31, f_X6_sample_v32, f_X6_sample_v33, f_X6_sample_v34, f_X6_sample_v35, f_X6_sample_v36, f_X6_sample_v4, f_X6_sample_v5, f_X6_sample_v6, f_X6_sample_v7, f_X6_sample_v8, f_X6_sample_v9, pg_ms_samples, pg_m_a1, pg_m_a2, pg_m_b, pg_m_deadTime, pg_m_load, pg_m_measure, pg_m_before, pg_m_past, pg_m_gain, pg_m_low, pg_m_high, pg_m_setpoint, pg_m_integral, pg_m_guard, pg_m_share, pg_m_mode, pg_m_hand, pg_m_follows, pg_m_hasMaster, pg_m_isStarved, pg_m_held, pg_m_sum, pg_m_lastError, pg_m_lastRate, pg_m_goesOn, pg_m_points, pg_m_at, pg_m_then, pg_m_experiment, pg_m_center, pg_m_height, pg_m_band, pg_m_isUp, pg_m_gone, pg_m_risings, pg_m_second, pg_m_greatest, pg_m_least, pg_m_period, pg_m_swing, pg_ms_thrown, pr]
theorem sq_m_second (M : MT) : ym_m_second (stepM M) = ym_m_second (pq 2 (pr 1 (pr 0 0 M) (pq 0 0 M)) (pq 1 (pr 0 0 M) (pq 0 0 M))) := by
  rw [ps_m_second]
  simp only [sM_m_second, f_X6_sample_m_gain, f_X6_sample_m_gone, f_X6_sample_m_isStarved, f_X6_sample_m_lastRate, f_X6_sample_ms_samples, f_X6_sample_v10, f_X6_sample_v11, f_X6_sample_v12, f_X6_sample_v13, f_X6_sample_v14, f_X6_sample_v21, f_X6_sample_v22, f_X6_sample_v23, f_X6_sample_v24, f_X6_sample_v25, f_X6_sample_v26, f_X6_sample_v27, f_X6_sample_v28, f_X6_sample_v29, f_X6_sample_v30, f_X6_sample_v31, f_X6_sample_v32, f_X6_sample_v33, f_X6_sample_v34, f_X6_sample_v35, f_X6_sample_v36, f_X6_sample_v4, f_X6_sample_v5, f_X6_sample_v6, f_X6_sample_v7, f_X6_sample_v8, f_X6_sample_v9, pg_ms_samples, pg_m_a1, pg_m_a2, pg_m_b, pg_m_deadTime, pg_m_load, pg_m_measure, pg_m_before, pg_m_past, pg_m_gain, pg_m_low, pg_m_high, pg_m_setpoint, pg_m_integral, pg_m_guard, pg_m_share, pg_m_mode, pg_m_hand, pg_m_follows, pg_m_hasMaster, pg_m_isStarved, pg_m_held, pg_m_sum, pg_m_lastError, pg_m_lastRate, pg_m_goesOn, pg_m_points, pg_m_at, pg_m_then, pg_m_experiment, pg_m_center, pg_m_height, pg_m_band, pg_m_isUp, pg_m_gone, pg_m_risings, pg_m_second, pg_m_greatest, pg_m_least, pg_m_period, pg_m_swing, pg_ms_thrown, pr]
theorem sq_m_greatest (M : MT) : ym_m_greatest (stepM M) = ym_m_greatest (pq 2 (pr 1 (pr 0 0 M) (pq 0 0 M)) (pq 1 (pr 0 0 M) (pq 0 0 M))) := by
  rw [ps_m_greatest]
  simp only [sM_m_greatest, f_X6_sample_m_gain, f_X6_sample_m_gone, f_X6_sample_m_isStarved, f_X6_sample_m_lastRate, f_X6_sample_ms_samples, f_X6_sample_v10, f_X6_sample_v11, f_X6_sample_v12, f_X6_sample_v13, f_X6_sample_v14, f_X6_sample_v21, f_X6_sample_v22, f_X6_sample_v23, f_X6_sample_v24, f_X6_sample_v25, f_X6_sample_v26, f_X6_sample_v27, f_X6_sample_v28, f_X6_sample_v29, f_X6_sample_v30, f_X6_sample_v31, f_X6_sample_v32, f_X6_sample_v33, f_X6_sample_v34, f_X6_sample_v35, f_X6_sample_v36, f_X6_sample_v4, f_X6_sample_v5, f_X6_sample_v6, f_X6_sample_v7, f_X6_sample_v8, f_X6_sample_v9, pg_ms_samples, pg_m_a1, pg_m_a2, pg_m_b, pg_m_deadTime, pg_m_load, pg_m_measure, pg_m_before, pg_m_past, pg_m_gain, pg_m_low, pg_m_high, pg_m_setpoint, pg_m_integral, pg_m_guard, pg_m_share, pg_m_mode, pg_m_hand, pg_m_follows, pg_m_hasMaster, pg_m_isStarved, pg_m_held, pg_m_sum, pg_m_lastError, pg_m_lastRate, pg_m_goesOn, pg_m_points, pg_m_at, pg_m_then, pg_m_experiment, pg_m_center, pg_m_height, pg_m_band, pg_m_isUp, pg_m_gone, pg_m_risings, pg_m_second, pg_m_greatest, pg_m_least, pg_m_period, pg_m_swing, pg_ms_thrown, pr]
theorem sq_m_least (M : MT) : ym_m_least (stepM M) = ym_m_least (pq 2 (pr 1 (pr 0 0 M) (pq 0 0 M)) (pq 1 (pr 0 0 M) (pq 0 0 M))) := by
  rw [ps_m_least]
  simp only [sM_m_least, f_X6_sample_m_gain, f_X6_sample_m_gone, f_X6_sample_m_isStarved, f_X6_sample_m_lastRate, f_X6_sample_ms_samples, f_X6_sample_v10, f_X6_sample_v11, f_X6_sample_v12, f_X6_sample_v13, f_X6_sample_v14, f_X6_sample_v21, f_X6_sample_v22, f_X6_sample_v23, f_X6_sample_v24, f_X6_sample_v25, f_X6_sample_v26, f_X6_sample_v27, f_X6_sample_v28, f_X6_sample_v29, f_X6_sample_v30, f_X6_sample_v31, f_X6_sample_v32, f_X6_sample_v33, f_X6_sample_v34, f_X6_sample_v35, f_X6_sample_v36, f_X6_sample_v4, f_X6_sample_v5, f_X6_sample_v6, f_X6_sample_v7, f_X6_sample_v8, f_X6_sample_v9, pg_ms_samples, pg_m_a1, pg_m_a2, pg_m_b, pg_m_deadTime, pg_m_load, pg_m_measure, pg_m_before, pg_m_past, pg_m_gain, pg_m_low, pg_m_high, pg_m_setpoint, pg_m_integral, pg_m_guard, pg_m_share, pg_m_mode, pg_m_hand, pg_m_follows, pg_m_hasMaster, pg_m_isStarved, pg_m_held, pg_m_sum, pg_m_lastError, pg_m_lastRate, pg_m_goesOn, pg_m_points, pg_m_at, pg_m_then, pg_m_experiment, pg_m_center, pg_m_height, pg_m_band, pg_m_isUp, pg_m_gone, pg_m_risings, pg_m_second, pg_m_greatest, pg_m_least, pg_m_period, pg_m_swing, pg_ms_thrown, pr]
theorem sq_m_period (M : MT) : ym_m_period (stepM M) = ym_m_period (pq 2 (pr 1 (pr 0 0 M) (pq 0 0 M)) (pq 1 (pr 0 0 M) (pq 0 0 M))) := by
  rw [ps_m_period]
  simp only [sM_m_period, f_X6_sample_m_gain, f_X6_sample_m_gone, f_X6_sample_m_isStarved, f_X6_sample_m_lastRate, f_X6_sample_ms_samples, f_X6_sample_v10, f_X6_sample_v11, f_X6_sample_v12, f_X6_sample_v13, f_X6_sample_v14, f_X6_sample_v21, f_X6_sample_v22, f_X6_sample_v23, f_X6_sample_v24, f_X6_sample_v25, f_X6_sample_v26, f_X6_sample_v27, f_X6_sample_v28, f_X6_sample_v29, f_X6_sample_v30, f_X6_sample_v31, f_X6_sample_v32, f_X6_sample_v33, f_X6_sample_v34, f_X6_sample_v35, f_X6_sample_v36, f_X6_sample_v4, f_X6_sample_v5, f_X6_sample_v6, f_X6_sample_v7, f_X6_sample_v8, f_X6_sample_v9, pg_ms_samples, pg_m_a1, pg_m_a2, pg_m_b, pg_m_deadTime, pg_m_load, pg_m_measure, pg_m_before, pg_m_past, pg_m_gain, pg_m_low, pg_m_high, pg_m_setpoint, pg_m_integral, pg_m_guard, pg_m_share, pg_m_mode, pg_m_hand, pg_m_follows, pg_m_hasMaster, pg_m_isStarved, pg_m_held, pg_m_sum, pg_m_lastError, pg_m_lastRate, pg_m_goesOn, pg_m_points, pg_m_at, pg_m_then, pg_m_experiment, pg_m_center, pg_m_height, pg_m_band, pg_m_isUp, pg_m_gone, pg_m_risings, pg_m_second, pg_m_greatest, pg_m_least, pg_m_period, pg_m_swing, pg_ms_thrown, pr]
theorem sq_m_swing (M : MT) : ym_m_swing (stepM M) = ym_m_swing (pq 2 (pr 1 (pr 0 0 M) (pq 0 0 M)) (pq 1 (pr 0 0 M) (pq 0 0 M))) := by
  rw [ps_m_swing]
  simp only [sM_m_swing, f_X6_sample_m_gain, f_X6_sample_m_gone, f_X6_sample_m_isStarved, f_X6_sample_m_lastRate, f_X6_sample_ms_samples, f_X6_sample_v10, f_X6_sample_v11, f_X6_sample_v12, f_X6_sample_v13, f_X6_sample_v14, f_X6_sample_v21, f_X6_sample_v22, f_X6_sample_v23, f_X6_sample_v24, f_X6_sample_v25, f_X6_sample_v26, f_X6_sample_v27, f_X6_sample_v28, f_X6_sample_v29, f_X6_sample_v30, f_X6_sample_v31, f_X6_sample_v32, f_X6_sample_v33, f_X6_sample_v34, f_X6_sample_v35, f_X6_sample_v36, f_X6_sample_v4, f_X6_sample_v5, f_X6_sample_v6, f_X6_sample_v7, f_X6_sample_v8, f_X6_sample_v9, pg_ms_samples, pg_m_a1, pg_m_a2, pg_m_b, pg_m_deadTime, pg_m_load, pg_m_measure, pg_m_before, pg_m_past, pg_m_gain, pg_m_low, pg_m_high, pg_m_setpoint, pg_m_integral, pg_m_guard, pg_m_share, pg_m_mode, pg_m_hand, pg_m_follows, pg_m_hasMaster, pg_m_isStarved, pg_m_held, pg_m_sum, pg_m_lastError, pg_m_lastRate, pg_m_goesOn, pg_m_points, pg_m_at, pg_m_then, pg_m_experiment, pg_m_center, pg_m_height, pg_m_band, pg_m_isUp, pg_m_gone, pg_m_risings, pg_m_second, pg_m_greatest, pg_m_least, pg_m_period, pg_m_swing, pg_ms_thrown, pr]
theorem sq_ms_thrown (M : MT) : ym_ms_thrown (stepM M) = ym_ms_thrown (pq 2 (pr 1 (pr 0 0 M) (pq 0 0 M)) (pq 1 (pr 0 0 M) (pq 0 0 M))) := by
  rw [ps_ms_thrown]
  simp only [sM_ms_thrown, f_X6_sample_m_gain, f_X6_sample_m_gone, f_X6_sample_m_isStarved, f_X6_sample_m_lastRate, f_X6_sample_ms_samples, f_X6_sample_v10, f_X6_sample_v11, f_X6_sample_v12, f_X6_sample_v13, f_X6_sample_v14, f_X6_sample_v21, f_X6_sample_v22, f_X6_sample_v23, f_X6_sample_v24, f_X6_sample_v25, f_X6_sample_v26, f_X6_sample_v27, f_X6_sample_v28, f_X6_sample_v29, f_X6_sample_v30, f_X6_sample_v31, f_X6_sample_v32, f_X6_sample_v33, f_X6_sample_v34, f_X6_sample_v35, f_X6_sample_v36, f_X6_sample_v4, f_X6_sample_v5, f_X6_sample_v6, f_X6_sample_v7, f_X6_sample_v8, f_X6_sample_v9, pg_ms_samples, pg_m_a1, pg_m_a2, pg_m_b, pg_m_deadTime, pg_m_load, pg_m_measure, pg_m_before, pg_m_past, pg_m_gain, pg_m_low, pg_m_high, pg_m_setpoint, pg_m_integral, pg_m_guard, pg_m_share, pg_m_mode, pg_m_hand, pg_m_follows, pg_m_hasMaster, pg_m_isStarved, pg_m_held, pg_m_sum, pg_m_lastError, pg_m_lastRate, pg_m_goesOn, pg_m_points, pg_m_at, pg_m_then, pg_m_experiment, pg_m_center, pg_m_height, pg_m_band, pg_m_isUp, pg_m_gone, pg_m_risings, pg_m_second, pg_m_greatest, pg_m_least, pg_m_period, pg_m_swing, pg_ms_thrown, pr]
theorem sq_samples (M : MT) : ym_ms_samples (stepM M) = ym_ms_samples M + 1 := ps_ms_samples M
theorem sp_0 (M : MT) : ym_m_past (stepM M) 0 = (pr 0 0 M) := by
  refine (ul_ne _ _ (by decide)).trans ?_
  refine (ul_ne _ _ (by decide)).trans ?_
  refine (ul_ne _ _ (by decide)).trans ?_
  refine (ul_ne _ _ (by decide)).trans ?_
  refine (ul_ne _ _ (by decide)).trans ?_
  refine (ul_ne _ _ (by decide)).trans ?_
  refine (ul_ne _ _ (by decide)).trans ?_
  refine (ul_ne _ _ (by decide)).trans ?_
  refine (ul_ne _ _ (by decide)).trans ?_
  refine (ul_ne _ _ (by decide)).trans ?_
  refine (ul_ne _ _ (by decide)).trans ?_
  refine (ul_ne _ _ (by decide)).trans ?_
  refine (ul_ne _ _ (by decide)).trans ?_
  refine (ul_ne _ _ (by decide)).trans ?_
  refine (ul_ne _ _ (by decide)).trans ?_
  refine (ul_ne _ _ (by decide)).trans ?_
  refine (ul_ne _ _ (by decide)).trans ?_
  refine (ul_ne _ _ (by decide)).trans ?_
  refine (ul_ne _ _ (by decide)).trans ?_
  refine (ul_ne _ _ (by decide)).trans ?_
  refine (ul_ne _ _ (by decide)).trans ?_
  refine (ul_ne _ _ (by decide)).trans ?_
  refine (ul_eq _ _ _).trans ?_
  simp only [f_X6_sample_m_gain, f_X6_sample_m_gone, f_X6_sample_m_isStarved, f_X6_sample_m_lastRate, f_X6_sample_ms_samples, f_X6_sample_v10, f_X6_sample_v11, f_X6_sample_v12, f_X6_sample_v13, f_X6_sample_v14, f_X6_sample_v21, f_X6_sample_v22, f_X6_sample_v23, f_X6_sample_v24, f_X6_sample_v25, f_X6_sample_v26, f_X6_sample_v27, f_X6_sample_v28, f_X6_sample_v29, f_X6_sample_v30, f_X6_sample_v31, f_X6_sample_v32, f_X6_sample_v33, f_X6_sample_v34, f_X6_sample_v35, f_X6_sample_v36, f_X6_sample_v4, f_X6_sample_v5, f_X6_sample_v6, f_X6_sample_v7, f_X6_sample_v8, f_X6_sample_v9, pg_ms_samples, pg_m_a1, pg_m_a2, pg_m_b, pg_m_deadTime, pg_m_load, pg_m_measure, pg_m_before, pg_m_past, pg_m_gain, pg_m_low, pg_m_high, pg_m_setpoint, pg_m_integral, pg_m_guard, pg_m_share, pg_m_mode, pg_m_hand, pg_m_follows, pg_m_hasMaster, pg_m_isStarved, pg_m_held, pg_m_sum, pg_m_lastError, pg_m_lastRate, pg_m_goesOn, pg_m_points, pg_m_at, pg_m_then, pg_m_experiment, pg_m_center, pg_m_height, pg_m_band, pg_m_isUp, pg_m_gone, pg_m_risings, pg_m_second, pg_m_greatest, pg_m_least, pg_m_period, pg_m_swing, pg_ms_thrown, pr]
theorem sp_1 (M : MT) : ym_m_past (stepM M) 1 = (ym_m_past M 0) := by
  refine (ul_ne _ _ (by decide)).trans ?_
  refine (ul_ne _ _ (by decide)).trans ?_
  refine (ul_ne _ _ (by decide)).trans ?_
  refine (ul_ne _ _ (by decide)).trans ?_
  refine (ul_ne _ _ (by decide)).trans ?_
  refine (ul_ne _ _ (by decide)).trans ?_
  refine (ul_ne _ _ (by decide)).trans ?_
  refine (ul_ne _ _ (by decide)).trans ?_
  refine (ul_ne _ _ (by decide)).trans ?_
  refine (ul_ne _ _ (by decide)).trans ?_
  refine (ul_ne _ _ (by decide)).trans ?_
  refine (ul_ne _ _ (by decide)).trans ?_
  refine (ul_ne _ _ (by decide)).trans ?_
  refine (ul_ne _ _ (by decide)).trans ?_
  refine (ul_ne _ _ (by decide)).trans ?_
  refine (ul_ne _ _ (by decide)).trans ?_
  refine (ul_ne _ _ (by decide)).trans ?_
  refine (ul_ne _ _ (by decide)).trans ?_
  refine (ul_ne _ _ (by decide)).trans ?_
  refine (ul_ne _ _ (by decide)).trans ?_
  refine (ul_ne _ _ (by decide)).trans ?_
  refine (ul_ne _ _ (by decide)).trans ?_
  refine (ul_ne _ _ (by decide)).trans ?_
  refine (ul_eq _ _ _).trans ?_
  refine (ul_ne _ _ (by decide)).trans ?_
  refine (ul_ne _ _ (by decide)).trans ?_
  refine (ul_ne _ _ (by decide)).trans ?_
  refine (ul_ne _ _ (by decide)).trans ?_
  refine (ul_ne _ _ (by decide)).trans ?_
  refine (ul_ne _ _ (by decide)).trans ?_
  refine (ul_ne _ _ (by decide)).trans ?_
  refine (ul_ne _ _ (by decide)).trans ?_
  refine (ul_ne _ _ (by decide)).trans ?_
  rfl
theorem sp_2 (M : MT) : ym_m_past (stepM M) 2 = (ym_m_past M 1) := by
  refine (ul_ne _ _ (by decide)).trans ?_
  refine (ul_ne _ _ (by decide)).trans ?_
  refine (ul_ne _ _ (by decide)).trans ?_
  refine (ul_ne _ _ (by decide)).trans ?_
  refine (ul_ne _ _ (by decide)).trans ?_
  refine (ul_ne _ _ (by decide)).trans ?_
  refine (ul_ne _ _ (by decide)).trans ?_
  refine (ul_ne _ _ (by decide)).trans ?_
  refine (ul_ne _ _ (by decide)).trans ?_
  refine (ul_ne _ _ (by decide)).trans ?_
  refine (ul_ne _ _ (by decide)).trans ?_
  refine (ul_ne _ _ (by decide)).trans ?_
  refine (ul_ne _ _ (by decide)).trans ?_
  refine (ul_ne _ _ (by decide)).trans ?_
  refine (ul_ne _ _ (by decide)).trans ?_
  refine (ul_ne _ _ (by decide)).trans ?_
  refine (ul_ne _ _ (by decide)).trans ?_
  refine (ul_ne _ _ (by decide)).trans ?_
  refine (ul_ne _ _ (by decide)).trans ?_
  refine (ul_ne _ _ (by decide)).trans ?_
  refine (ul_ne _ _ (by decide)).trans ?_
  refine (ul_ne _ _ (by decide)).trans ?_
  refine (ul_ne _ _ (by decide)).trans ?_
  refine (ul_ne _ _ (by decide)).trans ?_
  refine (ul_eq _ _ _).trans ?_
  refine (ul_ne _ _ (by decide)).trans ?_
  refine (ul_ne _ _ (by decide)).trans ?_
  refine (ul_ne _ _ (by decide)).trans ?_
  refine (ul_ne _ _ (by decide)).trans ?_
  refine (ul_ne _ _ (by decide)).trans ?_
  refine (ul_ne _ _ (by decide)).trans ?_
  refine (ul_ne _ _ (by decide)).trans ?_
  refine (ul_ne _ _ (by decide)).trans ?_
  rfl
theorem sp_3 (M : MT) : ym_m_past (stepM M) 3 = (ym_m_past M 2) := by
  refine (ul_ne _ _ (by decide)).trans ?_
  refine (ul_ne _ _ (by decide)).trans ?_
  refine (ul_ne _ _ (by decide)).trans ?_
  refine (ul_ne _ _ (by decide)).trans ?_
  refine (ul_ne _ _ (by decide)).trans ?_
  refine (ul_ne _ _ (by decide)).trans ?_
  refine (ul_ne _ _ (by decide)).trans ?_
  refine (ul_ne _ _ (by decide)).trans ?_
  refine (ul_ne _ _ (by decide)).trans ?_
  refine (ul_ne _ _ (by decide)).trans ?_
  refine (ul_ne _ _ (by decide)).trans ?_
  refine (ul_ne _ _ (by decide)).trans ?_
  refine (ul_ne _ _ (by decide)).trans ?_
  refine (ul_ne _ _ (by decide)).trans ?_
  refine (ul_ne _ _ (by decide)).trans ?_
  refine (ul_ne _ _ (by decide)).trans ?_
  refine (ul_ne _ _ (by decide)).trans ?_
  refine (ul_ne _ _ (by decide)).trans ?_
  refine (ul_ne _ _ (by decide)).trans ?_
  refine (ul_ne _ _ (by decide)).trans ?_
  refine (ul_ne _ _ (by decide)).trans ?_
  refine (ul_ne _ _ (by decide)).trans ?_
  refine (ul_ne _ _ (by decide)).trans ?_
  refine (ul_ne _ _ (by decide)).trans ?_
  refine (ul_ne _ _ (by decide)).trans ?_
  refine (ul_eq _ _ _).trans ?_
  refine (ul_ne _ _ (by decide)).trans ?_
  refine (ul_ne _ _ (by decide)).trans ?_
  refine (ul_ne _ _ (by decide)).trans ?_
  refine (ul_ne _ _ (by decide)).trans ?_
  refine (ul_ne _ _ (by decide)).trans ?_
  refine (ul_ne _ _ (by decide)).trans ?_
  refine (ul_ne _ _ (by decide)).trans ?_
  rfl
theorem sp_4 (M : MT) : ym_m_past (stepM M) 4 = (ym_m_past M 3) := by
  refine (ul_ne _ _ (by decide)).trans ?_
  refine (ul_ne _ _ (by decide)).trans ?_
  refine (ul_ne _ _ (by decide)).trans ?_
  refine (ul_ne _ _ (by decide)).trans ?_
  refine (ul_ne _ _ (by decide)).trans ?_
  refine (ul_ne _ _ (by decide)).trans ?_
  refine (ul_ne _ _ (by decide)).trans ?_
  refine (ul_ne _ _ (by decide)).trans ?_
  refine (ul_ne _ _ (by decide)).trans ?_
  refine (ul_ne _ _ (by decide)).trans ?_
  refine (ul_ne _ _ (by decide)).trans ?_
  refine (ul_ne _ _ (by decide)).trans ?_
  refine (ul_ne _ _ (by decide)).trans ?_
  refine (ul_ne _ _ (by decide)).trans ?_
  refine (ul_ne _ _ (by decide)).trans ?_
  refine (ul_ne _ _ (by decide)).trans ?_
  refine (ul_ne _ _ (by decide)).trans ?_
  refine (ul_ne _ _ (by decide)).trans ?_
  refine (ul_ne _ _ (by decide)).trans ?_
  refine (ul_ne _ _ (by decide)).trans ?_
  refine (ul_ne _ _ (by decide)).trans ?_
  refine (ul_ne _ _ (by decide)).trans ?_
  refine (ul_ne _ _ (by decide)).trans ?_
  refine (ul_ne _ _ (by decide)).trans ?_
  refine (ul_ne _ _ (by decide)).trans ?_
  refine (ul_ne _ _ (by decide)).trans ?_
  refine (ul_eq _ _ _).trans ?_
  refine (ul_ne _ _ (by decide)).trans ?_
  refine (ul_ne _ _ (by decide)).trans ?_
  refine (ul_ne _ _ (by decide)).trans ?_
  refine (ul_ne _ _ (by decide)).trans ?_
  refine (ul_ne _ _ (by decide)).trans ?_
  refine (ul_ne _ _ (by decide)).trans ?_
  rfl
theorem sp_5 (M : MT) : ym_m_past (stepM M) 5 = (ym_m_past M 4) := by
  refine (ul_ne _ _ (by decide)).trans ?_
  refine (ul_ne _ _ (by decide)).trans ?_
  refine (ul_ne _ _ (by decide)).trans ?_
  refine (ul_ne _ _ (by decide)).trans ?_
  refine (ul_ne _ _ (by decide)).trans ?_
  refine (ul_ne _ _ (by decide)).trans ?_
  refine (ul_ne _ _ (by decide)).trans ?_
  refine (ul_ne _ _ (by decide)).trans ?_
  refine (ul_ne _ _ (by decide)).trans ?_
  refine (ul_ne _ _ (by decide)).trans ?_
  refine (ul_ne _ _ (by decide)).trans ?_
  refine (ul_ne _ _ (by decide)).trans ?_
  refine (ul_ne _ _ (by decide)).trans ?_
  refine (ul_ne _ _ (by decide)).trans ?_
  refine (ul_ne _ _ (by decide)).trans ?_
  refine (ul_ne _ _ (by decide)).trans ?_
  refine (ul_ne _ _ (by decide)).trans ?_
  refine (ul_ne _ _ (by decide)).trans ?_
  refine (ul_ne _ _ (by decide)).trans ?_
  refine (ul_ne _ _ (by decide)).trans ?_
  refine (ul_ne _ _ (by decide)).trans ?_
  refine (ul_ne _ _ (by decide)).trans ?_
  refine (ul_ne _ _ (by decide)).trans ?_
  refine (ul_ne _ _ (by decide)).trans ?_
  refine (ul_ne _ _ (by decide)).trans ?_
  refine (ul_ne _ _ (by decide)).trans ?_
  refine (ul_ne _ _ (by decide)).trans ?_
  refine (ul_eq _ _ _).trans ?_
  refine (ul_ne _ _ (by decide)).trans ?_
  refine (ul_ne _ _ (by decide)).trans ?_
  refine (ul_ne _ _ (by decide)).trans ?_
  refine (ul_ne _ _ (by decide)).trans ?_
  refine (ul_ne _ _ (by decide)).trans ?_
  rfl
theorem sp_6 (M : MT) : ym_m_past (stepM M) 6 = (ym_m_past M 5) := by
  refine (ul_ne _ _ (by decide)).trans ?_
  refine (ul_ne _ _ (by decide)).trans ?_
  refine (ul_ne _ _ (by decide)).trans ?_
  refine (ul_ne _ _ (by decide)).trans ?_
  refine (ul_ne _ _ (by decide)).trans ?_
  refine (ul_ne _ _ (by decide)).trans ?_
  refine (ul_ne _ _ (by decide)).trans ?_
  refine (ul_ne _ _ (by decide)).trans ?_
  refine (ul_ne _ _ (by decide)).trans ?_
  refine (ul_ne _ _ (by decide)).trans ?_
  refine (ul_ne _ _ (by decide)).trans ?_
  refine (ul_ne _ _ (by decide)).trans ?_
  refine (ul_ne _ _ (by decide)).trans ?_
  refine (ul_ne _ _ (by decide)).trans ?_
  refine (ul_ne _ _ (by decide)).trans ?_
  refine (ul_ne _ _ (by decide)).trans ?_
  refine (ul_ne _ _ (by decide)).trans ?_
  refine (ul_ne _ _ (by decide)).trans ?_
  refine (ul_ne _ _ (by decide)).trans ?_
  refine (ul_ne _ _ (by decide)).trans ?_
  refine (ul_ne _ _ (by decide)).trans ?_
  refine (ul_ne _ _ (by decide)).trans ?_
  refine (ul_ne _ _ (by decide)).trans ?_
  refine (ul_ne _ _ (by decide)).trans ?_
  refine (ul_ne _ _ (by decide)).trans ?_
  refine (ul_ne _ _ (by decide)).trans ?_
  refine (ul_ne _ _ (by decide)).trans ?_
  refine (ul_ne _ _ (by decide)).trans ?_
  refine (ul_eq _ _ _).trans ?_
  refine (ul_ne _ _ (by decide)).trans ?_
  refine (ul_ne _ _ (by decide)).trans ?_
  refine (ul_ne _ _ (by decide)).trans ?_
  refine (ul_ne _ _ (by decide)).trans ?_
  rfl
theorem sp_7 (M : MT) : ym_m_past (stepM M) 7 = (ym_m_past M 6) := by
  refine (ul_ne _ _ (by decide)).trans ?_
  refine (ul_ne _ _ (by decide)).trans ?_
  refine (ul_ne _ _ (by decide)).trans ?_
  refine (ul_ne _ _ (by decide)).trans ?_
  refine (ul_ne _ _ (by decide)).trans ?_
  refine (ul_ne _ _ (by decide)).trans ?_
  refine (ul_ne _ _ (by decide)).trans ?_
  refine (ul_ne _ _ (by decide)).trans ?_
  refine (ul_ne _ _ (by decide)).trans ?_
  refine (ul_ne _ _ (by decide)).trans ?_
  refine (ul_ne _ _ (by decide)).trans ?_
  refine (ul_ne _ _ (by decide)).trans ?_
  refine (ul_ne _ _ (by decide)).trans ?_
  refine (ul_ne _ _ (by decide)).trans ?_
  refine (ul_ne _ _ (by decide)).trans ?_
  refine (ul_ne _ _ (by decide)).trans ?_
  refine (ul_ne _ _ (by decide)).trans ?_
  refine (ul_ne _ _ (by decide)).trans ?_
  refine (ul_ne _ _ (by decide)).trans ?_
  refine (ul_ne _ _ (by decide)).trans ?_
  refine (ul_ne _ _ (by decide)).trans ?_
  refine (ul_ne _ _ (by decide)).trans ?_
  refine (ul_ne _ _ (by decide)).trans ?_
  refine (ul_ne _ _ (by decide)).trans ?_
  refine (ul_ne _ _ (by decide)).trans ?_
  refine (ul_ne _ _ (by decide)).trans ?_
  refine (ul_ne _ _ (by decide)).trans ?_
  refine (ul_ne _ _ (by decide)).trans ?_
  refine (ul_ne _ _ (by decide)).trans ?_
  refine (ul_eq _ _ _).trans ?_
  refine (ul_ne _ _ (by decide)).trans ?_
  refine (ul_ne _ _ (by decide)).trans ?_
  refine (ul_ne _ _ (by decide)).trans ?_
  rfl
theorem sp_8 (M : MT) : ym_m_past (stepM M) 8 = (ym_m_past M 7) := by
  refine (ul_ne _ _ (by decide)).trans ?_
  refine (ul_ne _ _ (by decide)).trans ?_
  refine (ul_ne _ _ (by decide)).trans ?_
  refine (ul_ne _ _ (by decide)).trans ?_
  refine (ul_ne _ _ (by decide)).trans ?_
  refine (ul_ne _ _ (by decide)).trans ?_
  refine (ul_ne _ _ (by decide)).trans ?_
  refine (ul_ne _ _ (by decide)).trans ?_
  refine (ul_ne _ _ (by decide)).trans ?_
  refine (ul_ne _ _ (by decide)).trans ?_
  refine (ul_ne _ _ (by decide)).trans ?_
  refine (ul_ne _ _ (by decide)).trans ?_
  refine (ul_ne _ _ (by decide)).trans ?_
  refine (ul_ne _ _ (by decide)).trans ?_
  refine (ul_ne _ _ (by decide)).trans ?_
  refine (ul_ne _ _ (by decide)).trans ?_
  refine (ul_ne _ _ (by decide)).trans ?_
  refine (ul_ne _ _ (by decide)).trans ?_
  refine (ul_ne _ _ (by decide)).trans ?_
  refine (ul_ne _ _ (by decide)).trans ?_
  refine (ul_ne _ _ (by decide)).trans ?_
  refine (ul_ne _ _ (by decide)).trans ?_
  refine (ul_ne _ _ (by decide)).trans ?_
  refine (ul_ne _ _ (by decide)).trans ?_
  refine (ul_ne _ _ (by decide)).trans ?_
  refine (ul_ne _ _ (by decide)).trans ?_
  refine (ul_ne _ _ (by decide)).trans ?_
  refine (ul_ne _ _ (by decide)).trans ?_
  refine (ul_ne _ _ (by decide)).trans ?_
  refine (ul_ne _ _ (by decide)).trans ?_
  refine (ul_eq _ _ _).trans ?_
  refine (ul_ne _ _ (by decide)).trans ?_
  refine (ul_ne _ _ (by decide)).trans ?_
  rfl
theorem sp_9 (M : MT) : ym_m_past (stepM M) 9 = (ym_m_past M 8) := by
  refine (ul_ne _ _ (by decide)).trans ?_
  refine (ul_ne _ _ (by decide)).trans ?_
  refine (ul_ne _ _ (by decide)).trans ?_
  refine (ul_ne _ _ (by decide)).trans ?_
  refine (ul_ne _ _ (by decide)).trans ?_
  refine (ul_ne _ _ (by decide)).trans ?_
  refine (ul_ne _ _ (by decide)).trans ?_
  refine (ul_ne _ _ (by decide)).trans ?_
  refine (ul_ne _ _ (by decide)).trans ?_
  refine (ul_ne _ _ (by decide)).trans ?_
  refine (ul_ne _ _ (by decide)).trans ?_
  refine (ul_ne _ _ (by decide)).trans ?_
  refine (ul_ne _ _ (by decide)).trans ?_
  refine (ul_ne _ _ (by decide)).trans ?_
  refine (ul_ne _ _ (by decide)).trans ?_
  refine (ul_ne _ _ (by decide)).trans ?_
  refine (ul_ne _ _ (by decide)).trans ?_
  refine (ul_ne _ _ (by decide)).trans ?_
  refine (ul_ne _ _ (by decide)).trans ?_
  refine (ul_ne _ _ (by decide)).trans ?_
  refine (ul_ne _ _ (by decide)).trans ?_
  refine (ul_ne _ _ (by decide)).trans ?_
  refine (ul_ne _ _ (by decide)).trans ?_
  refine (ul_ne _ _ (by decide)).trans ?_
  refine (ul_ne _ _ (by decide)).trans ?_
  refine (ul_ne _ _ (by decide)).trans ?_
  refine (ul_ne _ _ (by decide)).trans ?_
  refine (ul_ne _ _ (by decide)).trans ?_
  refine (ul_ne _ _ (by decide)).trans ?_
  refine (ul_ne _ _ (by decide)).trans ?_
  refine (ul_ne _ _ (by decide)).trans ?_
  refine (ul_eq _ _ _).trans ?_
  refine (ul_ne _ _ (by decide)).trans ?_
  rfl
theorem sp_10 (M : MT) : ym_m_past (stepM M) 10 = (ym_m_past M 9) := by
  refine (ul_ne _ _ (by decide)).trans ?_
  refine (ul_ne _ _ (by decide)).trans ?_
  refine (ul_ne _ _ (by decide)).trans ?_
  refine (ul_ne _ _ (by decide)).trans ?_
  refine (ul_ne _ _ (by decide)).trans ?_
  refine (ul_ne _ _ (by decide)).trans ?_
  refine (ul_ne _ _ (by decide)).trans ?_
  refine (ul_ne _ _ (by decide)).trans ?_
  refine (ul_ne _ _ (by decide)).trans ?_
  refine (ul_ne _ _ (by decide)).trans ?_
  refine (ul_ne _ _ (by decide)).trans ?_
  refine (ul_ne _ _ (by decide)).trans ?_
  refine (ul_ne _ _ (by decide)).trans ?_
  refine (ul_ne _ _ (by decide)).trans ?_
  refine (ul_ne _ _ (by decide)).trans ?_
  refine (ul_ne _ _ (by decide)).trans ?_
  refine (ul_ne _ _ (by decide)).trans ?_
  refine (ul_ne _ _ (by decide)).trans ?_
  refine (ul_ne _ _ (by decide)).trans ?_
  refine (ul_ne _ _ (by decide)).trans ?_
  refine (ul_ne _ _ (by decide)).trans ?_
  refine (ul_ne _ _ (by decide)).trans ?_
  refine (ul_ne _ _ (by decide)).trans ?_
  refine (ul_ne _ _ (by decide)).trans ?_
  refine (ul_ne _ _ (by decide)).trans ?_
  refine (ul_ne _ _ (by decide)).trans ?_
  refine (ul_ne _ _ (by decide)).trans ?_
  refine (ul_ne _ _ (by decide)).trans ?_
  refine (ul_ne _ _ (by decide)).trans ?_
  refine (ul_ne _ _ (by decide)).trans ?_
  refine (ul_ne _ _ (by decide)).trans ?_
  refine (ul_ne _ _ (by decide)).trans ?_
  refine (ul_eq _ _ _).trans ?_
  rfl
theorem sp_11 (M : MT) : ym_m_past (stepM M) 11 = (pr 1 (pr 0 0 M) (pq 0 0 M)) := by
  refine (ul_ne _ _ (by decide)).trans ?_
  refine (ul_ne _ _ (by decide)).trans ?_
  refine (ul_ne _ _ (by decide)).trans ?_
  refine (ul_ne _ _ (by decide)).trans ?_
  refine (ul_ne _ _ (by decide)).trans ?_
  refine (ul_ne _ _ (by decide)).trans ?_
  refine (ul_ne _ _ (by decide)).trans ?_
  refine (ul_ne _ _ (by decide)).trans ?_
  refine (ul_ne _ _ (by decide)).trans ?_
  refine (ul_ne _ _ (by decide)).trans ?_
  refine (ul_ne _ _ (by decide)).trans ?_
  refine (ul_eq _ _ _).trans ?_
  simp only [f_X6_sample_m_gain, f_X6_sample_m_gone, f_X6_sample_m_isStarved, f_X6_sample_m_lastRate, f_X6_sample_ms_samples, f_X6_sample_v10, f_X6_sample_v11, f_X6_sample_v12, f_X6_sample_v13, f_X6_sample_v14, f_X6_sample_v21, f_X6_sample_v22, f_X6_sample_v23, f_X6_sample_v24, f_X6_sample_v25, f_X6_sample_v26, f_X6_sample_v27, f_X6_sample_v28, f_X6_sample_v29, f_X6_sample_v30, f_X6_sample_v31, f_X6_sample_v32, f_X6_sample_v33, f_X6_sample_v34, f_X6_sample_v35, f_X6_sample_v36, f_X6_sample_v4, f_X6_sample_v5, f_X6_sample_v6, f_X6_sample_v7, f_X6_sample_v8, f_X6_sample_v9, pg_ms_samples, pg_m_a1, pg_m_a2, pg_m_b, pg_m_deadTime, pg_m_load, pg_m_measure, pg_m_before, pg_m_past, pg_m_gain, pg_m_low, pg_m_high, pg_m_setpoint, pg_m_integral, pg_m_guard, pg_m_share, pg_m_mode, pg_m_hand, pg_m_follows, pg_m_hasMaster, pg_m_isStarved, pg_m_held, pg_m_sum, pg_m_lastError, pg_m_lastRate, pg_m_goesOn, pg_m_points, pg_m_at, pg_m_then, pg_m_experiment, pg_m_center, pg_m_height, pg_m_band, pg_m_isUp, pg_m_gone, pg_m_risings, pg_m_second, pg_m_greatest, pg_m_least, pg_m_period, pg_m_swing, pg_ms_thrown, pr]
theorem sp_12 (M : MT) : ym_m_past (stepM M) 12 = (ym_m_past M 11) := by
  refine (ul_ne _ _ (by decide)).trans ?_
  refine (ul_ne _ _ (by decide)).trans ?_
  refine (ul_ne _ _ (by decide)).trans ?_
  refine (ul_ne _ _ (by decide)).trans ?_
  refine (ul_ne _ _ (by decide)).trans ?_
  refine (ul_ne _ _ (by decide)).trans ?_
  refine (ul_ne _ _ (by decide)).trans ?_
  refine (ul_ne _ _ (by decide)).trans ?_
  refine (ul_ne _ _ (by decide)).trans ?_
  refine (ul_ne _ _ (by decide)).trans ?_
  refine (ul_ne _ _ (by decide)).trans ?_
  refine (ul_ne _ _ (by decide)).trans ?_
  refine (ul_eq _ _ _).trans ?_
  refine (ul_ne _ _ (by decide)).trans ?_
  refine (ul_ne _ _ (by decide)).trans ?_
  refine (ul_ne _ _ (by decide)).trans ?_
  refine (ul_ne _ _ (by decide)).trans ?_
  refine (ul_ne _ _ (by decide)).trans ?_
  refine (ul_ne _ _ (by decide)).trans ?_
  refine (ul_ne _ _ (by decide)).trans ?_
  refine (ul_ne _ _ (by decide)).trans ?_
  refine (ul_ne _ _ (by decide)).trans ?_
  refine (ul_ne _ _ (by decide)).trans ?_
  refine (ul_ne _ _ (by decide)).trans ?_
  refine (ul_ne _ _ (by decide)).trans ?_
  refine (ul_ne _ _ (by decide)).trans ?_
  refine (ul_ne _ _ (by decide)).trans ?_
  refine (ul_ne _ _ (by decide)).trans ?_
  refine (ul_ne _ _ (by decide)).trans ?_
  refine (ul_ne _ _ (by decide)).trans ?_
  refine (ul_ne _ _ (by decide)).trans ?_
  refine (ul_ne _ _ (by decide)).trans ?_
  refine (ul_ne _ _ (by decide)).trans ?_
  rfl
theorem sp_13 (M : MT) : ym_m_past (stepM M) 13 = (ym_m_past M 12) := by
  refine (ul_ne _ _ (by decide)).trans ?_
  refine (ul_ne _ _ (by decide)).trans ?_
  refine (ul_ne _ _ (by decide)).trans ?_
  refine (ul_ne _ _ (by decide)).trans ?_
  refine (ul_ne _ _ (by decide)).trans ?_
  refine (ul_ne _ _ (by decide)).trans ?_
  refine (ul_ne _ _ (by decide)).trans ?_
  refine (ul_ne _ _ (by decide)).trans ?_
  refine (ul_ne _ _ (by decide)).trans ?_
  refine (ul_ne _ _ (by decide)).trans ?_
  refine (ul_ne _ _ (by decide)).trans ?_
  refine (ul_ne _ _ (by decide)).trans ?_
  refine (ul_ne _ _ (by decide)).trans ?_
  refine (ul_eq _ _ _).trans ?_
  refine (ul_ne _ _ (by decide)).trans ?_
  refine (ul_ne _ _ (by decide)).trans ?_
  refine (ul_ne _ _ (by decide)).trans ?_
  refine (ul_ne _ _ (by decide)).trans ?_
  refine (ul_ne _ _ (by decide)).trans ?_
  refine (ul_ne _ _ (by decide)).trans ?_
  refine (ul_ne _ _ (by decide)).trans ?_
  refine (ul_ne _ _ (by decide)).trans ?_
  refine (ul_ne _ _ (by decide)).trans ?_
  refine (ul_ne _ _ (by decide)).trans ?_
  refine (ul_ne _ _ (by decide)).trans ?_
  refine (ul_ne _ _ (by decide)).trans ?_
  refine (ul_ne _ _ (by decide)).trans ?_
  refine (ul_ne _ _ (by decide)).trans ?_
  refine (ul_ne _ _ (by decide)).trans ?_
  refine (ul_ne _ _ (by decide)).trans ?_
  refine (ul_ne _ _ (by decide)).trans ?_
  refine (ul_ne _ _ (by decide)).trans ?_
  refine (ul_ne _ _ (by decide)).trans ?_
  rfl
theorem sp_14 (M : MT) : ym_m_past (stepM M) 14 = (ym_m_past M 13) := by
  refine (ul_ne _ _ (by decide)).trans ?_
  refine (ul_ne _ _ (by decide)).trans ?_
  refine (ul_ne _ _ (by decide)).trans ?_
  refine (ul_ne _ _ (by decide)).trans ?_
  refine (ul_ne _ _ (by decide)).trans ?_
  refine (ul_ne _ _ (by decide)).trans ?_
  refine (ul_ne _ _ (by decide)).trans ?_
  refine (ul_ne _ _ (by decide)).trans ?_
  refine (ul_ne _ _ (by decide)).trans ?_
  refine (ul_ne _ _ (by decide)).trans ?_
  refine (ul_ne _ _ (by decide)).trans ?_
  refine (ul_ne _ _ (by decide)).trans ?_
  refine (ul_ne _ _ (by decide)).trans ?_
  refine (ul_ne _ _ (by decide)).trans ?_
  refine (ul_eq _ _ _).trans ?_
  refine (ul_ne _ _ (by decide)).trans ?_
  refine (ul_ne _ _ (by decide)).trans ?_
  refine (ul_ne _ _ (by decide)).trans ?_
  refine (ul_ne _ _ (by decide)).trans ?_
  refine (ul_ne _ _ (by decide)).trans ?_
  refine (ul_ne _ _ (by decide)).trans ?_
  refine (ul_ne _ _ (by decide)).trans ?_
  refine (ul_ne _ _ (by decide)).trans ?_
  refine (ul_ne _ _ (by decide)).trans ?_
  refine (ul_ne _ _ (by decide)).trans ?_
  refine (ul_ne _ _ (by decide)).trans ?_
  refine (ul_ne _ _ (by decide)).trans ?_
  refine (ul_ne _ _ (by decide)).trans ?_
  refine (ul_ne _ _ (by decide)).trans ?_
  refine (ul_ne _ _ (by decide)).trans ?_
  refine (ul_ne _ _ (by decide)).trans ?_
  refine (ul_ne _ _ (by decide)).trans ?_
  refine (ul_ne _ _ (by decide)).trans ?_
  rfl
theorem sp_15 (M : MT) : ym_m_past (stepM M) 15 = (ym_m_past M 14) := by
  refine (ul_ne _ _ (by decide)).trans ?_
  refine (ul_ne _ _ (by decide)).trans ?_
  refine (ul_ne _ _ (by decide)).trans ?_
  refine (ul_ne _ _ (by decide)).trans ?_
  refine (ul_ne _ _ (by decide)).trans ?_
  refine (ul_ne _ _ (by decide)).trans ?_
  refine (ul_ne _ _ (by decide)).trans ?_
  refine (ul_ne _ _ (by decide)).trans ?_
  refine (ul_ne _ _ (by decide)).trans ?_
  refine (ul_ne _ _ (by decide)).trans ?_
  refine (ul_ne _ _ (by decide)).trans ?_
  refine (ul_ne _ _ (by decide)).trans ?_
  refine (ul_ne _ _ (by decide)).trans ?_
  refine (ul_ne _ _ (by decide)).trans ?_
  refine (ul_ne _ _ (by decide)).trans ?_
  refine (ul_eq _ _ _).trans ?_
  refine (ul_ne _ _ (by decide)).trans ?_
  refine (ul_ne _ _ (by decide)).trans ?_
  refine (ul_ne _ _ (by decide)).trans ?_
  refine (ul_ne _ _ (by decide)).trans ?_
  refine (ul_ne _ _ (by decide)).trans ?_
  refine (ul_ne _ _ (by decide)).trans ?_
  refine (ul_ne _ _ (by decide)).trans ?_
  refine (ul_ne _ _ (by decide)).trans ?_
  refine (ul_ne _ _ (by decide)).trans ?_
  refine (ul_ne _ _ (by decide)).trans ?_
  refine (ul_ne _ _ (by decide)).trans ?_
  refine (ul_ne _ _ (by decide)).trans ?_
  refine (ul_ne _ _ (by decide)).trans ?_
  refine (ul_ne _ _ (by decide)).trans ?_
  refine (ul_ne _ _ (by decide)).trans ?_
  refine (ul_ne _ _ (by decide)).trans ?_
  refine (ul_ne _ _ (by decide)).trans ?_
  rfl
theorem sp_16 (M : MT) : ym_m_past (stepM M) 16 = (ym_m_past M 15) := by
  refine (ul_ne _ _ (by decide)).trans ?_
  refine (ul_ne _ _ (by decide)).trans ?_
  refine (ul_ne _ _ (by decide)).trans ?_
  refine (ul_ne _ _ (by decide)).trans ?_
  refine (ul_ne _ _ (by decide)).trans ?_
  refine (ul_ne _ _ (by decide)).trans ?_
  refine (ul_ne _ _ (by decide)).trans ?_
  refine (ul_ne _ _ (by decide)).trans ?_
  refine (ul_ne _ _ (by decide)).trans ?_
  refine (ul_ne _ _ (by decide)).trans ?_
  refine (ul_ne _ _ (by decide)).trans ?_
  refine (ul_ne _ _ (by decide)).trans ?_
  refine (ul_ne _ _ (by decide)).trans ?_
  refine (ul_ne _ _ (by decide)).trans ?_
  refine (ul_ne _ _ (by decide)).trans ?_
  refine (ul_ne _ _ (by decide)).trans ?_
  refine (ul_eq _ _ _).trans ?_
  refine (ul_ne _ _ (by decide)).trans ?_
  refine (ul_ne _ _ (by decide)).trans ?_
  refine (ul_ne _ _ (by decide)).trans ?_
  refine (ul_ne _ _ (by decide)).trans ?_
  refine (ul_ne _ _ (by decide)).trans ?_
  refine (ul_ne _ _ (by decide)).trans ?_
  refine (ul_ne _ _ (by decide)).trans ?_
  refine (ul_ne _ _ (by decide)).trans ?_
  refine (ul_ne _ _ (by decide)).trans ?_
  refine (ul_ne _ _ (by decide)).trans ?_
  refine (ul_ne _ _ (by decide)).trans ?_
  refine (ul_ne _ _ (by decide)).trans ?_
  refine (ul_ne _ _ (by decide)).trans ?_
  refine (ul_ne _ _ (by decide)).trans ?_
  refine (ul_ne _ _ (by decide)).trans ?_
  refine (ul_ne _ _ (by decide)).trans ?_
  rfl
theorem sp_17 (M : MT) : ym_m_past (stepM M) 17 = (ym_m_past M 16) := by
  refine (ul_ne _ _ (by decide)).trans ?_
  refine (ul_ne _ _ (by decide)).trans ?_
  refine (ul_ne _ _ (by decide)).trans ?_
  refine (ul_ne _ _ (by decide)).trans ?_
  refine (ul_ne _ _ (by decide)).trans ?_
  refine (ul_ne _ _ (by decide)).trans ?_
  refine (ul_ne _ _ (by decide)).trans ?_
  refine (ul_ne _ _ (by decide)).trans ?_
  refine (ul_ne _ _ (by decide)).trans ?_
  refine (ul_ne _ _ (by decide)).trans ?_
  refine (ul_ne _ _ (by decide)).trans ?_
  refine (ul_ne _ _ (by decide)).trans ?_
  refine (ul_ne _ _ (by decide)).trans ?_
  refine (ul_ne _ _ (by decide)).trans ?_
  refine (ul_ne _ _ (by decide)).trans ?_
  refine (ul_ne _ _ (by decide)).trans ?_
  refine (ul_ne _ _ (by decide)).trans ?_
  refine (ul_eq _ _ _).trans ?_
  refine (ul_ne _ _ (by decide)).trans ?_
  refine (ul_ne _ _ (by decide)).trans ?_
  refine (ul_ne _ _ (by decide)).trans ?_
  refine (ul_ne _ _ (by decide)).trans ?_
  refine (ul_ne _ _ (by decide)).trans ?_
  refine (ul_ne _ _ (by decide)).trans ?_
  refine (ul_ne _ _ (by decide)).trans ?_
  refine (ul_ne _ _ (by decide)).trans ?_
  refine (ul_ne _ _ (by decide)).trans ?_
  refine (ul_ne _ _ (by decide)).trans ?_
  refine (ul_ne _ _ (by decide)).trans ?_
  refine (ul_ne _ _ (by decide)).trans ?_
  refine (ul_ne _ _ (by decide)).trans ?_
  refine (ul_ne _ _ (by decide)).trans ?_
  refine (ul_ne _ _ (by decide)).trans ?_
  rfl
theorem sp_18 (M : MT) : ym_m_past (stepM M) 18 = (ym_m_past M 17) := by
  refine (ul_ne _ _ (by decide)).trans ?_
  refine (ul_ne _ _ (by decide)).trans ?_
  refine (ul_ne _ _ (by decide)).trans ?_
  refine (ul_ne _ _ (by decide)).trans ?_
  refine (ul_ne _ _ (by decide)).trans ?_
  refine (ul_ne _ _ (by decide)).trans ?_
  refine (ul_ne _ _ (by decide)).trans ?_
  refine (ul_ne _ _ (by decide)).trans ?_
  refine (ul_ne _ _ (by decide)).trans ?_
  refine (ul_ne _ _ (by decide)).trans ?_
  refine (ul_ne _ _ (by decide)).trans ?_
  refine (ul_ne _ _ (by decide)).trans ?_
  refine (ul_ne _ _ (by decide)).trans ?_
  refine (ul_ne _ _ (by decide)).trans ?_
  refine (ul_ne _ _ (by decide)).trans ?_
  refine (ul_ne _ _ (by decide)).trans ?_
  refine (ul_ne _ _ (by decide)).trans ?_
  refine (ul_ne _ _ (by decide)).trans ?_
  refine (ul_eq _ _ _).trans ?_
  refine (ul_ne _ _ (by decide)).trans ?_
  refine (ul_ne _ _ (by decide)).trans ?_
  refine (ul_ne _ _ (by decide)).trans ?_
  refine (ul_ne _ _ (by decide)).trans ?_
  refine (ul_ne _ _ (by decide)).trans ?_
  refine (ul_ne _ _ (by decide)).trans ?_
  refine (ul_ne _ _ (by decide)).trans ?_
  refine (ul_ne _ _ (by decide)).trans ?_
  refine (ul_ne _ _ (by decide)).trans ?_
  refine (ul_ne _ _ (by decide)).trans ?_
  refine (ul_ne _ _ (by decide)).trans ?_
  refine (ul_ne _ _ (by decide)).trans ?_
  refine (ul_ne _ _ (by decide)).trans ?_
  refine (ul_ne _ _ (by decide)).trans ?_
  rfl
theorem sp_19 (M : MT) : ym_m_past (stepM M) 19 = (ym_m_past M 18) := by
  refine (ul_ne _ _ (by decide)).trans ?_
  refine (ul_ne _ _ (by decide)).trans ?_
  refine (ul_ne _ _ (by decide)).trans ?_
  refine (ul_ne _ _ (by decide)).trans ?_
  refine (ul_ne _ _ (by decide)).trans ?_
  refine (ul_ne _ _ (by decide)).trans ?_
  refine (ul_ne _ _ (by decide)).trans ?_
  refine (ul_ne _ _ (by decide)).trans ?_
  refine (ul_ne _ _ (by decide)).trans ?_
  refine (ul_ne _ _ (by decide)).trans ?_
  refine (ul_ne _ _ (by decide)).trans ?_
  refine (ul_ne _ _ (by decide)).trans ?_
  refine (ul_ne _ _ (by decide)).trans ?_
  refine (ul_ne _ _ (by decide)).trans ?_
  refine (ul_ne _ _ (by decide)).trans ?_
  refine (ul_ne _ _ (by decide)).trans ?_
  refine (ul_ne _ _ (by decide)).trans ?_
  refine (ul_ne _ _ (by decide)).trans ?_
  refine (ul_ne _ _ (by decide)).trans ?_
  refine (ul_eq _ _ _).trans ?_
  refine (ul_ne _ _ (by decide)).trans ?_
  refine (ul_ne _ _ (by decide)).trans ?_
  refine (ul_ne _ _ (by decide)).trans ?_
  refine (ul_ne _ _ (by decide)).trans ?_
  refine (ul_ne _ _ (by decide)).trans ?_
  refine (ul_ne _ _ (by decide)).trans ?_
  refine (ul_ne _ _ (by decide)).trans ?_
  refine (ul_ne _ _ (by decide)).trans ?_
  refine (ul_ne _ _ (by decide)).trans ?_
  refine (ul_ne _ _ (by decide)).trans ?_
  refine (ul_ne _ _ (by decide)).trans ?_
  refine (ul_ne _ _ (by decide)).trans ?_
  refine (ul_ne _ _ (by decide)).trans ?_
  rfl
theorem sp_20 (M : MT) : ym_m_past (stepM M) 20 = (ym_m_past M 19) := by
  refine (ul_ne _ _ (by decide)).trans ?_
  refine (ul_ne _ _ (by decide)).trans ?_
  refine (ul_ne _ _ (by decide)).trans ?_
  refine (ul_ne _ _ (by decide)).trans ?_
  refine (ul_ne _ _ (by decide)).trans ?_
  refine (ul_ne _ _ (by decide)).trans ?_
  refine (ul_ne _ _ (by decide)).trans ?_
  refine (ul_ne _ _ (by decide)).trans ?_
  refine (ul_ne _ _ (by decide)).trans ?_
  refine (ul_ne _ _ (by decide)).trans ?_
  refine (ul_ne _ _ (by decide)).trans ?_
  refine (ul_ne _ _ (by decide)).trans ?_
  refine (ul_ne _ _ (by decide)).trans ?_
  refine (ul_ne _ _ (by decide)).trans ?_
  refine (ul_ne _ _ (by decide)).trans ?_
  refine (ul_ne _ _ (by decide)).trans ?_
  refine (ul_ne _ _ (by decide)).trans ?_
  refine (ul_ne _ _ (by decide)).trans ?_
  refine (ul_ne _ _ (by decide)).trans ?_
  refine (ul_ne _ _ (by decide)).trans ?_
  refine (ul_eq _ _ _).trans ?_
  refine (ul_ne _ _ (by decide)).trans ?_
  refine (ul_ne _ _ (by decide)).trans ?_
  refine (ul_ne _ _ (by decide)).trans ?_
  refine (ul_ne _ _ (by decide)).trans ?_
  refine (ul_ne _ _ (by decide)).trans ?_
  refine (ul_ne _ _ (by decide)).trans ?_
  refine (ul_ne _ _ (by decide)).trans ?_
  refine (ul_ne _ _ (by decide)).trans ?_
  refine (ul_ne _ _ (by decide)).trans ?_
  refine (ul_ne _ _ (by decide)).trans ?_
  refine (ul_ne _ _ (by decide)).trans ?_
  refine (ul_ne _ _ (by decide)).trans ?_
  rfl
theorem sp_21 (M : MT) : ym_m_past (stepM M) 21 = (ym_m_past M 20) := by
  refine (ul_ne _ _ (by decide)).trans ?_
  refine (ul_ne _ _ (by decide)).trans ?_
  refine (ul_ne _ _ (by decide)).trans ?_
  refine (ul_ne _ _ (by decide)).trans ?_
  refine (ul_ne _ _ (by decide)).trans ?_
  refine (ul_ne _ _ (by decide)).trans ?_
  refine (ul_ne _ _ (by decide)).trans ?_
  refine (ul_ne _ _ (by decide)).trans ?_
  refine (ul_ne _ _ (by decide)).trans ?_
  refine (ul_ne _ _ (by decide)).trans ?_
  refine (ul_ne _ _ (by decide)).trans ?_
  refine (ul_ne _ _ (by decide)).trans ?_
  refine (ul_ne _ _ (by decide)).trans ?_
  refine (ul_ne _ _ (by decide)).trans ?_
  refine (ul_ne _ _ (by decide)).trans ?_
  refine (ul_ne _ _ (by decide)).trans ?_
  refine (ul_ne _ _ (by decide)).trans ?_
  refine (ul_ne _ _ (by decide)).trans ?_
  refine (ul_ne _ _ (by decide)).trans ?_
  refine (ul_ne _ _ (by decide)).trans ?_
  refine (ul_ne _ _ (by decide)).trans ?_
  refine (ul_eq _ _ _).trans ?_
  refine (ul_ne _ _ (by decide)).trans ?_
  refine (ul_ne _ _ (by decide)).trans ?_
  refine (ul_ne _ _ (by decide)).trans ?_
  refine (ul_ne _ _ (by decide)).trans ?_
  refine (ul_ne _ _ (by decide)).trans ?_
  refine (ul_ne _ _ (by decide)).trans ?_
  refine (ul_ne _ _ (by decide)).trans ?_
  refine (ul_ne _ _ (by decide)).trans ?_
  refine (ul_ne _ _ (by decide)).trans ?_
  refine (ul_ne _ _ (by decide)).trans ?_
  refine (ul_ne _ _ (by decide)).trans ?_
  rfl
theorem sp_22 (M : MT) : ym_m_past (stepM M) 22 = (pr 2 (pr 1 (pr 0 0 M) (pq 0 0 M)) (pq 1 (pr 0 0 M) (pq 0 0 M))) := by
  refine (ul_eq _ _ _).trans ?_
  simp only [f_X6_sample_m_gain, f_X6_sample_m_gone, f_X6_sample_m_isStarved, f_X6_sample_m_lastRate, f_X6_sample_ms_samples, f_X6_sample_v10, f_X6_sample_v11, f_X6_sample_v12, f_X6_sample_v13, f_X6_sample_v14, f_X6_sample_v21, f_X6_sample_v22, f_X6_sample_v23, f_X6_sample_v24, f_X6_sample_v25, f_X6_sample_v26, f_X6_sample_v27, f_X6_sample_v28, f_X6_sample_v29, f_X6_sample_v30, f_X6_sample_v31, f_X6_sample_v32, f_X6_sample_v33, f_X6_sample_v34, f_X6_sample_v35, f_X6_sample_v36, f_X6_sample_v4, f_X6_sample_v5, f_X6_sample_v6, f_X6_sample_v7, f_X6_sample_v8, f_X6_sample_v9, pg_ms_samples, pg_m_a1, pg_m_a2, pg_m_b, pg_m_deadTime, pg_m_load, pg_m_measure, pg_m_before, pg_m_past, pg_m_gain, pg_m_low, pg_m_high, pg_m_setpoint, pg_m_integral, pg_m_guard, pg_m_share, pg_m_mode, pg_m_hand, pg_m_follows, pg_m_hasMaster, pg_m_isStarved, pg_m_held, pg_m_sum, pg_m_lastError, pg_m_lastRate, pg_m_goesOn, pg_m_points, pg_m_at, pg_m_then, pg_m_experiment, pg_m_center, pg_m_height, pg_m_band, pg_m_isUp, pg_m_gone, pg_m_risings, pg_m_second, pg_m_greatest, pg_m_least, pg_m_period, pg_m_swing, pg_ms_thrown, pr]
theorem sp_23 (M : MT) : ym_m_past (stepM M) 23 = (ym_m_past M 22) := by
  refine (ul_ne _ _ (by decide)).trans ?_
  refine (ul_eq _ _ _).trans ?_
  refine (ul_ne _ _ (by decide)).trans ?_
  refine (ul_ne _ _ (by decide)).trans ?_
  refine (ul_ne _ _ (by decide)).trans ?_
  refine (ul_ne _ _ (by decide)).trans ?_
  refine (ul_ne _ _ (by decide)).trans ?_
  refine (ul_ne _ _ (by decide)).trans ?_
  refine (ul_ne _ _ (by decide)).trans ?_
  refine (ul_ne _ _ (by decide)).trans ?_
  refine (ul_ne _ _ (by decide)).trans ?_
  refine (ul_ne _ _ (by decide)).trans ?_
  refine (ul_ne _ _ (by decide)).trans ?_
  refine (ul_ne _ _ (by decide)).trans ?_
  refine (ul_ne _ _ (by decide)).trans ?_
  refine (ul_ne _ _ (by decide)).trans ?_
  refine (ul_ne _ _ (by decide)).trans ?_
  refine (ul_ne _ _ (by decide)).trans ?_
  refine (ul_ne _ _ (by decide)).trans ?_
  refine (ul_ne _ _ (by decide)).trans ?_
  refine (ul_ne _ _ (by decide)).trans ?_
  refine (ul_ne _ _ (by decide)).trans ?_
  refine (ul_ne _ _ (by decide)).trans ?_
  refine (ul_ne _ _ (by decide)).trans ?_
  refine (ul_ne _ _ (by decide)).trans ?_
  refine (ul_ne _ _ (by decide)).trans ?_
  refine (ul_ne _ _ (by decide)).trans ?_
  refine (ul_ne _ _ (by decide)).trans ?_
  refine (ul_ne _ _ (by decide)).trans ?_
  refine (ul_ne _ _ (by decide)).trans ?_
  refine (ul_ne _ _ (by decide)).trans ?_
  refine (ul_ne _ _ (by decide)).trans ?_
  refine (ul_ne _ _ (by decide)).trans ?_
  rfl
theorem sp_24 (M : MT) : ym_m_past (stepM M) 24 = (ym_m_past M 23) := by
  refine (ul_ne _ _ (by decide)).trans ?_
  refine (ul_ne _ _ (by decide)).trans ?_
  refine (ul_eq _ _ _).trans ?_
  refine (ul_ne _ _ (by decide)).trans ?_
  refine (ul_ne _ _ (by decide)).trans ?_
  refine (ul_ne _ _ (by decide)).trans ?_
  refine (ul_ne _ _ (by decide)).trans ?_
  refine (ul_ne _ _ (by decide)).trans ?_
  refine (ul_ne _ _ (by decide)).trans ?_
  refine (ul_ne _ _ (by decide)).trans ?_
  refine (ul_ne _ _ (by decide)).trans ?_
  refine (ul_ne _ _ (by decide)).trans ?_
  refine (ul_ne _ _ (by decide)).trans ?_
  refine (ul_ne _ _ (by decide)).trans ?_
  refine (ul_ne _ _ (by decide)).trans ?_
  refine (ul_ne _ _ (by decide)).trans ?_
  refine (ul_ne _ _ (by decide)).trans ?_
  refine (ul_ne _ _ (by decide)).trans ?_
  refine (ul_ne _ _ (by decide)).trans ?_
  refine (ul_ne _ _ (by decide)).trans ?_
  refine (ul_ne _ _ (by decide)).trans ?_
  refine (ul_ne _ _ (by decide)).trans ?_
  refine (ul_ne _ _ (by decide)).trans ?_
  refine (ul_ne _ _ (by decide)).trans ?_
  refine (ul_ne _ _ (by decide)).trans ?_
  refine (ul_ne _ _ (by decide)).trans ?_
  refine (ul_ne _ _ (by decide)).trans ?_
  refine (ul_ne _ _ (by decide)).trans ?_
  refine (ul_ne _ _ (by decide)).trans ?_
  refine (ul_ne _ _ (by decide)).trans ?_
  refine (ul_ne _ _ (by decide)).trans ?_
  refine (ul_ne _ _ (by decide)).trans ?_
  refine (ul_ne _ _ (by decide)).trans ?_
  rfl
theorem sp_25 (M : MT) : ym_m_past (stepM M) 25 = (ym_m_past M 24) := by
  refine (ul_ne _ _ (by decide)).trans ?_
  refine (ul_ne _ _ (by decide)).trans ?_
  refine (ul_ne _ _ (by decide)).trans ?_
  refine (ul_eq _ _ _).trans ?_
  refine (ul_ne _ _ (by decide)).trans ?_
  refine (ul_ne _ _ (by decide)).trans ?_
  refine (ul_ne _ _ (by decide)).trans ?_
  refine (ul_ne _ _ (by decide)).trans ?_
  refine (ul_ne _ _ (by decide)).trans ?_
  refine (ul_ne _ _ (by decide)).trans ?_
  refine (ul_ne _ _ (by decide)).trans ?_
  refine (ul_ne _ _ (by decide)).trans ?_
  refine (ul_ne _ _ (by decide)).trans ?_
  refine (ul_ne _ _ (by decide)).trans ?_
  refine (ul_ne _ _ (by decide)).trans ?_
  refine (ul_ne _ _ (by decide)).trans ?_
  refine (ul_ne _ _ (by decide)).trans ?_
  refine (ul_ne _ _ (by decide)).trans ?_
  refine (ul_ne _ _ (by decide)).trans ?_
  refine (ul_ne _ _ (by decide)).trans ?_
  refine (ul_ne _ _ (by decide)).trans ?_
  refine (ul_ne _ _ (by decide)).trans ?_
  refine (ul_ne _ _ (by decide)).trans ?_
  refine (ul_ne _ _ (by decide)).trans ?_
  refine (ul_ne _ _ (by decide)).trans ?_
  refine (ul_ne _ _ (by decide)).trans ?_
  refine (ul_ne _ _ (by decide)).trans ?_
  refine (ul_ne _ _ (by decide)).trans ?_
  refine (ul_ne _ _ (by decide)).trans ?_
  refine (ul_ne _ _ (by decide)).trans ?_
  refine (ul_ne _ _ (by decide)).trans ?_
  refine (ul_ne _ _ (by decide)).trans ?_
  refine (ul_ne _ _ (by decide)).trans ?_
  rfl
theorem sp_26 (M : MT) : ym_m_past (stepM M) 26 = (ym_m_past M 25) := by
  refine (ul_ne _ _ (by decide)).trans ?_
  refine (ul_ne _ _ (by decide)).trans ?_
  refine (ul_ne _ _ (by decide)).trans ?_
  refine (ul_ne _ _ (by decide)).trans ?_
  refine (ul_eq _ _ _).trans ?_
  refine (ul_ne _ _ (by decide)).trans ?_
  refine (ul_ne _ _ (by decide)).trans ?_
  refine (ul_ne _ _ (by decide)).trans ?_
  refine (ul_ne _ _ (by decide)).trans ?_
  refine (ul_ne _ _ (by decide)).trans ?_
  refine (ul_ne _ _ (by decide)).trans ?_
  refine (ul_ne _ _ (by decide)).trans ?_
  refine (ul_ne _ _ (by decide)).trans ?_
  refine (ul_ne _ _ (by decide)).trans ?_
  refine (ul_ne _ _ (by decide)).trans ?_
  refine (ul_ne _ _ (by decide)).trans ?_
  refine (ul_ne _ _ (by decide)).trans ?_
  refine (ul_ne _ _ (by decide)).trans ?_
  refine (ul_ne _ _ (by decide)).trans ?_
  refine (ul_ne _ _ (by decide)).trans ?_
  refine (ul_ne _ _ (by decide)).trans ?_
  refine (ul_ne _ _ (by decide)).trans ?_
  refine (ul_ne _ _ (by decide)).trans ?_
  refine (ul_ne _ _ (by decide)).trans ?_
  refine (ul_ne _ _ (by decide)).trans ?_
  refine (ul_ne _ _ (by decide)).trans ?_
  refine (ul_ne _ _ (by decide)).trans ?_
  refine (ul_ne _ _ (by decide)).trans ?_
  refine (ul_ne _ _ (by decide)).trans ?_
  refine (ul_ne _ _ (by decide)).trans ?_
  refine (ul_ne _ _ (by decide)).trans ?_
  refine (ul_ne _ _ (by decide)).trans ?_
  refine (ul_ne _ _ (by decide)).trans ?_
  rfl
theorem sp_27 (M : MT) : ym_m_past (stepM M) 27 = (ym_m_past M 26) := by
  refine (ul_ne _ _ (by decide)).trans ?_
  refine (ul_ne _ _ (by decide)).trans ?_
  refine (ul_ne _ _ (by decide)).trans ?_
  refine (ul_ne _ _ (by decide)).trans ?_
  refine (ul_ne _ _ (by decide)).trans ?_
  refine (ul_eq _ _ _).trans ?_
  refine (ul_ne _ _ (by decide)).trans ?_
  refine (ul_ne _ _ (by decide)).trans ?_
  refine (ul_ne _ _ (by decide)).trans ?_
  refine (ul_ne _ _ (by decide)).trans ?_
  refine (ul_ne _ _ (by decide)).trans ?_
  refine (ul_ne _ _ (by decide)).trans ?_
  refine (ul_ne _ _ (by decide)).trans ?_
  refine (ul_ne _ _ (by decide)).trans ?_
  refine (ul_ne _ _ (by decide)).trans ?_
  refine (ul_ne _ _ (by decide)).trans ?_
  refine (ul_ne _ _ (by decide)).trans ?_
  refine (ul_ne _ _ (by decide)).trans ?_
  refine (ul_ne _ _ (by decide)).trans ?_
  refine (ul_ne _ _ (by decide)).trans ?_
  refine (ul_ne _ _ (by decide)).trans ?_
  refine (ul_ne _ _ (by decide)).trans ?_
  refine (ul_ne _ _ (by decide)).trans ?_
  refine (ul_ne _ _ (by decide)).trans ?_
  refine (ul_ne _ _ (by decide)).trans ?_
  refine (ul_ne _ _ (by decide)).trans ?_
  refine (ul_ne _ _ (by decide)).trans ?_
  refine (ul_ne _ _ (by decide)).trans ?_
  refine (ul_ne _ _ (by decide)).trans ?_
  refine (ul_ne _ _ (by decide)).trans ?_
  refine (ul_ne _ _ (by decide)).trans ?_
  refine (ul_ne _ _ (by decide)).trans ?_
  refine (ul_ne _ _ (by decide)).trans ?_
  rfl
theorem sp_28 (M : MT) : ym_m_past (stepM M) 28 = (ym_m_past M 27) := by
  refine (ul_ne _ _ (by decide)).trans ?_
  refine (ul_ne _ _ (by decide)).trans ?_
  refine (ul_ne _ _ (by decide)).trans ?_
  refine (ul_ne _ _ (by decide)).trans ?_
  refine (ul_ne _ _ (by decide)).trans ?_
  refine (ul_ne _ _ (by decide)).trans ?_
  refine (ul_eq _ _ _).trans ?_
  refine (ul_ne _ _ (by decide)).trans ?_
  refine (ul_ne _ _ (by decide)).trans ?_
  refine (ul_ne _ _ (by decide)).trans ?_
  refine (ul_ne _ _ (by decide)).trans ?_
  refine (ul_ne _ _ (by decide)).trans ?_
  refine (ul_ne _ _ (by decide)).trans ?_
  refine (ul_ne _ _ (by decide)).trans ?_
  refine (ul_ne _ _ (by decide)).trans ?_
  refine (ul_ne _ _ (by decide)).trans ?_
  refine (ul_ne _ _ (by decide)).trans ?_
  refine (ul_ne _ _ (by decide)).trans ?_
  refine (ul_ne _ _ (by decide)).trans ?_
  refine (ul_ne _ _ (by decide)).trans ?_
  refine (ul_ne _ _ (by decide)).trans ?_
  refine (ul_ne _ _ (by decide)).trans ?_
  refine (ul_ne _ _ (by decide)).trans ?_
  refine (ul_ne _ _ (by decide)).trans ?_
  refine (ul_ne _ _ (by decide)).trans ?_
  refine (ul_ne _ _ (by decide)).trans ?_
  refine (ul_ne _ _ (by decide)).trans ?_
  refine (ul_ne _ _ (by decide)).trans ?_
  refine (ul_ne _ _ (by decide)).trans ?_
  refine (ul_ne _ _ (by decide)).trans ?_
  refine (ul_ne _ _ (by decide)).trans ?_
  refine (ul_ne _ _ (by decide)).trans ?_
  refine (ul_ne _ _ (by decide)).trans ?_
  rfl
theorem sp_29 (M : MT) : ym_m_past (stepM M) 29 = (ym_m_past M 28) := by
  refine (ul_ne _ _ (by decide)).trans ?_
  refine (ul_ne _ _ (by decide)).trans ?_
  refine (ul_ne _ _ (by decide)).trans ?_
  refine (ul_ne _ _ (by decide)).trans ?_
  refine (ul_ne _ _ (by decide)).trans ?_
  refine (ul_ne _ _ (by decide)).trans ?_
  refine (ul_ne _ _ (by decide)).trans ?_
  refine (ul_eq _ _ _).trans ?_
  refine (ul_ne _ _ (by decide)).trans ?_
  refine (ul_ne _ _ (by decide)).trans ?_
  refine (ul_ne _ _ (by decide)).trans ?_
  refine (ul_ne _ _ (by decide)).trans ?_
  refine (ul_ne _ _ (by decide)).trans ?_
  refine (ul_ne _ _ (by decide)).trans ?_
  refine (ul_ne _ _ (by decide)).trans ?_
  refine (ul_ne _ _ (by decide)).trans ?_
  refine (ul_ne _ _ (by decide)).trans ?_
  refine (ul_ne _ _ (by decide)).trans ?_
  refine (ul_ne _ _ (by decide)).trans ?_
  refine (ul_ne _ _ (by decide)).trans ?_
  refine (ul_ne _ _ (by decide)).trans ?_
  refine (ul_ne _ _ (by decide)).trans ?_
  refine (ul_ne _ _ (by decide)).trans ?_
  refine (ul_ne _ _ (by decide)).trans ?_
  refine (ul_ne _ _ (by decide)).trans ?_
  refine (ul_ne _ _ (by decide)).trans ?_
  refine (ul_ne _ _ (by decide)).trans ?_
  refine (ul_ne _ _ (by decide)).trans ?_
  refine (ul_ne _ _ (by decide)).trans ?_
  refine (ul_ne _ _ (by decide)).trans ?_
  refine (ul_ne _ _ (by decide)).trans ?_
  refine (ul_ne _ _ (by decide)).trans ?_
  refine (ul_ne _ _ (by decide)).trans ?_
  rfl
theorem sp_30 (M : MT) : ym_m_past (stepM M) 30 = (ym_m_past M 29) := by
  refine (ul_ne _ _ (by decide)).trans ?_
  refine (ul_ne _ _ (by decide)).trans ?_
  refine (ul_ne _ _ (by decide)).trans ?_
  refine (ul_ne _ _ (by decide)).trans ?_
  refine (ul_ne _ _ (by decide)).trans ?_
  refine (ul_ne _ _ (by decide)).trans ?_
  refine (ul_ne _ _ (by decide)).trans ?_
  refine (ul_ne _ _ (by decide)).trans ?_
  refine (ul_eq _ _ _).trans ?_
  refine (ul_ne _ _ (by decide)).trans ?_
  refine (ul_ne _ _ (by decide)).trans ?_
  refine (ul_ne _ _ (by decide)).trans ?_
  refine (ul_ne _ _ (by decide)).trans ?_
  refine (ul_ne _ _ (by decide)).trans ?_
  refine (ul_ne _ _ (by decide)).trans ?_
  refine (ul_ne _ _ (by decide)).trans ?_
  refine (ul_ne _ _ (by decide)).trans ?_
  refine (ul_ne _ _ (by decide)).trans ?_
  refine (ul_ne _ _ (by decide)).trans ?_
  refine (ul_ne _ _ (by decide)).trans ?_
  refine (ul_ne _ _ (by decide)).trans ?_
  refine (ul_ne _ _ (by decide)).trans ?_
  refine (ul_ne _ _ (by decide)).trans ?_
  refine (ul_ne _ _ (by decide)).trans ?_
  refine (ul_ne _ _ (by decide)).trans ?_
  refine (ul_ne _ _ (by decide)).trans ?_
  refine (ul_ne _ _ (by decide)).trans ?_
  refine (ul_ne _ _ (by decide)).trans ?_
  refine (ul_ne _ _ (by decide)).trans ?_
  refine (ul_ne _ _ (by decide)).trans ?_
  refine (ul_ne _ _ (by decide)).trans ?_
  refine (ul_ne _ _ (by decide)).trans ?_
  refine (ul_ne _ _ (by decide)).trans ?_
  rfl
theorem sp_31 (M : MT) : ym_m_past (stepM M) 31 = (ym_m_past M 30) := by
  refine (ul_ne _ _ (by decide)).trans ?_
  refine (ul_ne _ _ (by decide)).trans ?_
  refine (ul_ne _ _ (by decide)).trans ?_
  refine (ul_ne _ _ (by decide)).trans ?_
  refine (ul_ne _ _ (by decide)).trans ?_
  refine (ul_ne _ _ (by decide)).trans ?_
  refine (ul_ne _ _ (by decide)).trans ?_
  refine (ul_ne _ _ (by decide)).trans ?_
  refine (ul_ne _ _ (by decide)).trans ?_
  refine (ul_eq _ _ _).trans ?_
  refine (ul_ne _ _ (by decide)).trans ?_
  refine (ul_ne _ _ (by decide)).trans ?_
  refine (ul_ne _ _ (by decide)).trans ?_
  refine (ul_ne _ _ (by decide)).trans ?_
  refine (ul_ne _ _ (by decide)).trans ?_
  refine (ul_ne _ _ (by decide)).trans ?_
  refine (ul_ne _ _ (by decide)).trans ?_
  refine (ul_ne _ _ (by decide)).trans ?_
  refine (ul_ne _ _ (by decide)).trans ?_
  refine (ul_ne _ _ (by decide)).trans ?_
  refine (ul_ne _ _ (by decide)).trans ?_
  refine (ul_ne _ _ (by decide)).trans ?_
  refine (ul_ne _ _ (by decide)).trans ?_
  refine (ul_ne _ _ (by decide)).trans ?_
  refine (ul_ne _ _ (by decide)).trans ?_
  refine (ul_ne _ _ (by decide)).trans ?_
  refine (ul_ne _ _ (by decide)).trans ?_
  refine (ul_ne _ _ (by decide)).trans ?_
  refine (ul_ne _ _ (by decide)).trans ?_
  refine (ul_ne _ _ (by decide)).trans ?_
  refine (ul_ne _ _ (by decide)).trans ?_
  refine (ul_ne _ _ (by decide)).trans ?_
  refine (ul_ne _ _ (by decide)).trans ?_
  rfl
theorem sp_32 (M : MT) : ym_m_past (stepM M) 32 = (ym_m_past M 31) := by
  refine (ul_ne _ _ (by decide)).trans ?_
  refine (ul_ne _ _ (by decide)).trans ?_
  refine (ul_ne _ _ (by decide)).trans ?_
  refine (ul_ne _ _ (by decide)).trans ?_
  refine (ul_ne _ _ (by decide)).trans ?_
  refine (ul_ne _ _ (by decide)).trans ?_
  refine (ul_ne _ _ (by decide)).trans ?_
  refine (ul_ne _ _ (by decide)).trans ?_
  refine (ul_ne _ _ (by decide)).trans ?_
  refine (ul_ne _ _ (by decide)).trans ?_
  refine (ul_eq _ _ _).trans ?_
  refine (ul_ne _ _ (by decide)).trans ?_
  refine (ul_ne _ _ (by decide)).trans ?_
  refine (ul_ne _ _ (by decide)).trans ?_
  refine (ul_ne _ _ (by decide)).trans ?_
  refine (ul_ne _ _ (by decide)).trans ?_
  refine (ul_ne _ _ (by decide)).trans ?_
  refine (ul_ne _ _ (by decide)).trans ?_
  refine (ul_ne _ _ (by decide)).trans ?_
  refine (ul_ne _ _ (by decide)).trans ?_
  refine (ul_ne _ _ (by decide)).trans ?_
  refine (ul_ne _ _ (by decide)).trans ?_
  refine (ul_ne _ _ (by decide)).trans ?_
  refine (ul_ne _ _ (by decide)).trans ?_
  refine (ul_ne _ _ (by decide)).trans ?_
  refine (ul_ne _ _ (by decide)).trans ?_
  refine (ul_ne _ _ (by decide)).trans ?_
  refine (ul_ne _ _ (by decide)).trans ?_
  refine (ul_ne _ _ (by decide)).trans ?_
  refine (ul_ne _ _ (by decide)).trans ?_
  refine (ul_ne _ _ (by decide)).trans ?_
  refine (ul_ne _ _ (by decide)).trans ?_
  refine (ul_ne _ _ (by decide)).trans ?_
  rfl
theorem sm_0 (M : MT) : ym_m_measure (stepM M) 0 = f_X6_within_j1_1 ((f_X6_floor_j1_1 (((ym_m_a1 M 0 * ym_m_measure M 0) + (ym_m_a2 M 0 * ym_m_before M 0)) + (ym_m_b M 0 * (ym_m_past (stepM M) ((0 : Int32) + (ym_m_deadTime M 0)).toNatClampNeg))) (1000 : Int64)) + (ym_m_load M 0).toInt64) (-1000000 : Int64) (1000000 : Int64) := by
  refine (ul_ne _ _ (by decide)).trans ?_
  refine (ul_ne _ _ (by decide)).trans ?_
  refine (ul_eq _ _ _).trans ?_
  rfl
theorem sb_0 (M : MT) : ym_m_before (stepM M) 0 = ym_m_measure M 0 := by
  refine (ul_ne _ _ (by decide)).trans ?_
  refine (ul_ne _ _ (by decide)).trans ?_
  refine (ul_eq _ _ _).trans ?_
  rfl
theorem sm_1 (M : MT) : ym_m_measure (stepM M) 1 = f_X6_within_j1_1 ((f_X6_floor_j1_1 (((ym_m_a1 M 1 * ym_m_measure M 1) + (ym_m_a2 M 1 * ym_m_before M 1)) + (ym_m_b M 1 * (ym_m_past (stepM M) ((11 : Int32) + (ym_m_deadTime M 1)).toNatClampNeg))) (1000 : Int64)) + (ym_m_load M 1).toInt64) (-1000000 : Int64) (1000000 : Int64) := by
  refine (ul_ne _ _ (by decide)).trans ?_
  refine (ul_eq _ _ _).trans ?_
  have e1 : ∀ x : Int64, vp_updL (ym_m_measure M) (0 : Int32).toNatClampNeg x 1 = ym_m_measure M 1 := fun x => ul_ne _ _ (by decide)
  have e2 : ∀ x : Int64, vp_updL (ym_m_before M) (0 : Int32).toNatClampNeg x 1 = ym_m_before M 1 := fun x => ul_ne _ _ (by decide)
  unfold f_X6_sample_v49
  rw [show ∀ x : Int64, vp_updL (ym_m_measure M) (0 : Int32).toNatClampNeg x (1 : Int32).toNatClampNeg = ym_m_measure M 1 from e1, show ∀ x : Int64, vp_updL (ym_m_before M) (0 : Int32).toNatClampNeg x (1 : Int32).toNatClampNeg = ym_m_before M 1 from e2]
  rfl
theorem sb_1 (M : MT) : ym_m_before (stepM M) 1 = ym_m_measure M 1 := by
  refine (ul_ne _ _ (by decide)).trans ?_
  refine (ul_eq _ _ _).trans ?_
  exact ul_ne _ _ (by decide)
theorem sm_2 (M : MT) : ym_m_measure (stepM M) 2 = f_X6_within_j1_1 ((f_X6_floor_j1_1 (((ym_m_a1 M 2 * ym_m_measure M 2) + (ym_m_a2 M 2 * ym_m_before M 2)) + (ym_m_b M 2 * (ym_m_past (stepM M) ((22 : Int32) + (ym_m_deadTime M 2)).toNatClampNeg))) (1000 : Int64)) + (ym_m_load M 2).toInt64) (-1000000 : Int64) (1000000 : Int64) := by
  refine (ul_eq _ _ _).trans ?_
  have e1 : ∀ x : Int64, vp_updL (ym_m_measure M) (0 : Int32).toNatClampNeg x 2 = ym_m_measure M 2 := fun x => ul_ne _ _ (by decide)
  have e2 : ∀ x : Int64, vp_updL (ym_m_before M) (0 : Int32).toNatClampNeg x 2 = ym_m_before M 2 := fun x => ul_ne _ _ (by decide)
  unfold f_X6_sample_v52 f_X6_sample_v51 f_X6_sample_v50
  rw [show ∀ x y : Int64, vp_updL (vp_updL (ym_m_measure M) (0 : Int32).toNatClampNeg x) (1 : Int32).toNatClampNeg y (2 : Int32).toNatClampNeg = ym_m_measure M 2 from fun x y => (ul_ne _ _ (by decide)).trans (e1 x), show ∀ x y : Int64, vp_updL (vp_updL (ym_m_before M) (0 : Int32).toNatClampNeg x) (1 : Int32).toNatClampNeg y (2 : Int32).toNatClampNeg = ym_m_before M 2 from fun x y => (ul_ne _ _ (by decide)).trans (e2 x)]
  rfl
theorem sb_2 (M : MT) : ym_m_before (stepM M) 2 = ym_m_measure M 2 := by
  refine (ul_eq _ _ _).trans ?_
  exact (ul_ne _ _ (by decide)).trans (ul_ne _ _ (by decide))
