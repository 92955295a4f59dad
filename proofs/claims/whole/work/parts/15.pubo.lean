set_option maxHeartbeats 4000000 in
set_option maxRecDepth 100000 in
theorem c_X5_setPlant_o (l : Launch) (dC : Nat → ClassId) (dI : Nat → Nat → Nat) (cI cJ cZ cO : ClassId) (adB adA : Nat) (bs : Int32) (lf : Nat → Option Nat) (lp a1v a2v bv dtv : Int32) (sz : Nat) (hfl : l.stackTraces = false) (hlo : ¬ lp < (0 : Int32) → ¬ lp < (3 : Int32)) : vx_Met l yX5_setPlant (Cond.code yX5_setPlant cX5_setPlant 7 none :: wAll) ({ frames := 7, cells := 1, slots := 6, locals := 103 }) (va_Pc [.ref adB, .int lp, .int a1v, .int a2v, .int bv, .int dtv] (gP (dC, dI) [zX5 adB adA bs, zAL cO adA 3 lf] (tyG cI cJ cZ cO) sz (gT (va_A [zX5 adB adA bs, zAL cO adA 3 lf] sz)))) (va_Qv (fun (_ : Unit) => 1 = 0) (fun _ t => gB (dC, dI) (va_A [zX5 adB adA bs, zAL cO adA 3 lf] sz) [zX5 adB adA bs, zAL cO adA 3 lf] (tyG cI cJ cZ cO) t) (va_A [zX5 adB adA bs, zAL cO adA 3 lf] sz)) (gE (dC, dI) (va_A [zX5 adB adA bs, zAL cO adA 3 lf] sz) [zX5 adB adA bs, zAL cO adA 3 lf] (tyG cI cJ cZ cO) 1) 1 6 (va_A [zX5 adB adA bs, zAL cO adA 3 lf] sz) := by
  refine vx_ofW (cc := cX5_setPlant) (maxL := 7) (ret := none) (by decide) rfl ?_
  intro p e s m args below meth c s₁ B hml htab hv
  obtain ⟨rfl, hsz, hP, hK, hD0, hG⟩ := hv
  have hx := B.exec
  have hb := B.bytes
  have hr := B.returns
  have hts := ht_of B.pre
  have hown : s.vm.findClass RX5 = some m.cls := findClass_of_methodNamed B.named
  have hlocks := B.notSynchronized
  subst hsz
  have hD := hD0.self (sz := s.heap.size)
  generalize hAe : va_A [zX5 adB adA bs, zAL cO adA 3 lf] s.heap.size = A at hD hG ⊢
  have hA : ∀ q : Nat, s.heap.size ≤ q → A q := fun q h => by rw [← hAe]; exact Or.inr h
  have hS : va_S A s.heap s.heap [] := va_S.rf
  have hP : va_P (dC, dI) vwCl [zX5 adB adA bs, zAL cO adA 3 lf] s.heap := hP
  have hl := lv_entry ([.ref adB, .int lp, .int a1v, .int a2v, .int bv, .int dtv]) (n := 7) (Nat.le_of_ble_eq_true rfl)
  rw [lg_entry_eq]
  generalize (lg_sl ([.ref adB, .int lp, .int a1v, .int a2v, .int bv, .int dtv]) ++ List.replicate (7 - (lg_sl ([.ref adB, .int lp, .int a1v, .int a2v, .int bv, .int dtv])).length) Slot.unset).toArray = ls at hl ⊢
  have hl : lv_has ls 7 [(0, .ref adB), (1, .int lp), (2, .int a1v), (3, .int a2v), (4, .int bv), (5, .int dtv)] := hl
  refine hh_name (fun Q hQ => ?_)
  refine lv_aload_n hx hb dX5_setPlant_0 rfl (lv_at hl 0 rfl) ?_
  refine lv_iload_n hx hb dX5_setPlant_1 rfl (lv_at hl 1 rfl) ?_
  refine hh_xcallq (w2 := [zX5 adB adA bs, zAL cO adA 3 lf]) (vx_runV (As := [.int lp]) (rest := []) ⟨hx, hb, hml, hown, hts⟩ (c_X5_loopAt_o l dC dI cI cJ cZ cO adB adA bs lf lp _ hfl hlo) (cwV 1 hts (gd_V wd_2_28 wd_2_30 wd_p_0 wd_1_1 wd_2_31) rfl rfl rfl (by decide +kernel) ⟨Nat.le_of_ble_eq_true rfl, Nat.le_of_ble_eq_true rfl⟩) (hh_pV (ci := 5) (q := (RX5, TX5, 2)) (q0 := 0) rfl rfl (gT_c _) (gT_call hG hS (va_free hD hS hA [0, 1] rfl)) hK hP hD [0, 1] rfl rfl) rfl rfl hl.1 rfl (lv_room (Nat.le_of_ble_eq_true rfl)) dX5_setPlant_2 ⟨Nat.le_of_ble_eq_true rfl, Nat.le_of_ble_eq_true rfl⟩) hP hD hS hA [0, 1] [] [0, 1] rfl rfl rfl (by decide) rfl rfl rfl (fun E ce q9 H locs h1 hE hP hD hS hc1 hc2 hc3 => ?_) (fun H locs h1 hP hD hS => ?_)
  · skip
    exact hh_prop hQ (rfl) htab hlocks h1 hE hP hK hD hS hc1 hc2 hc3 (Nat.le_of_ble_eq_true rfl) (Nat.le_of_ble_eq_true rfl)
  · skip
    exact absurd h1 (by decide)
set_option maxHeartbeats 4000000 in
set_option maxRecDepth 100000 in
theorem c_X5_setLoad_o (l : Launch) (dC : Nat → ClassId) (dI : Nat → Nat → Nat) (cI cJ cZ cO : ClassId) (adB adA : Nat) (bs : Int32) (lf : Nat → Option Nat) (lp ldv : Int32) (sz : Nat) (hfl : l.stackTraces = false) (hlo : ¬ lp < (0 : Int32) → ¬ lp < (3 : Int32)) : vx_Met l yX5_setLoad (Cond.code yX5_setLoad cX5_setLoad 5 (some .int) :: wAll) ({ frames := 7, cells := 1, slots := 6, locals := 103 }) (va_Pc [.ref adB, .int lp, .int ldv] (gP (dC, dI) [zX5 adB adA bs, zAL cO adA 3 lf] (tyG cI cJ cZ cO) sz (gT (va_A [zX5 adB adA bs, zAL cO adA 3 lf] sz)))) (va_Qi (fun r (_ : Unit) => 1 = 0 ∧ r = (0 : Int32)) (fun _ t => gB (dC, dI) (va_A [zX5 adB adA bs, zAL cO adA 3 lf] sz) [zX5 adB adA bs, zAL cO adA 3 lf] (tyG cI cJ cZ cO) t) (va_A [zX5 adB adA bs, zAL cO adA 3 lf] sz)) (gE (dC, dI) (va_A [zX5 adB adA bs, zAL cO adA 3 lf] sz) [zX5 adB adA bs, zAL cO adA 3 lf] (tyG cI cJ cZ cO) 1) 1 6 (va_A [zX5 adB adA bs, zAL cO adA 3 lf] sz) := by
  refine vx_ofW (cc := cX5_setLoad) (maxL := 5) (ret := (some .int)) (by decide) rfl ?_
  intro p e s m args below meth c s₁ B hml htab hv
  obtain ⟨rfl, hsz, hP, hK, hD0, hG⟩ := hv
  have hx := B.exec
  have hb := B.bytes
  have hr := B.returns
  have hts := ht_of B.pre
  have hown : s.vm.findClass RX5 = some m.cls := findClass_of_methodNamed B.named
  have hlocks := B.notSynchronized
  subst hsz
  have hD := hD0.self (sz := s.heap.size)
  generalize hAe : va_A [zX5 adB adA bs, zAL cO adA 3 lf] s.heap.size = A at hD hG ⊢
  have hA : ∀ q : Nat, s.heap.size ≤ q → A q := fun q h => by rw [← hAe]; exact Or.inr h
  have hS : va_S A s.heap s.heap [] := va_S.rf
  have hP : va_P (dC, dI) vwCl [zX5 adB adA bs, zAL cO adA 3 lf] s.heap := hP
  have hl := lv_entry ([.ref adB, .int lp, .int ldv]) (n := 5) (Nat.le_of_ble_eq_true rfl)
  rw [lg_entry_eq]
  generalize (lg_sl ([.ref adB, .int lp, .int ldv]) ++ List.replicate (5 - (lg_sl ([.ref adB, .int lp, .int ldv])).length) Slot.unset).toArray = ls at hl ⊢
  have hl : lv_has ls 5 [(0, .ref adB), (1, .int lp), (2, .int ldv)] := hl
  refine hh_name (fun Q hQ => ?_)
  refine lv_aload_n hx hb dX5_setLoad_0 rfl (lv_at hl 0 rfl) ?_
  refine lv_iload_n hx hb dX5_setLoad_1 rfl (lv_at hl 1 rfl) ?_
  refine hh_xcallq (w2 := [zX5 adB adA bs, zAL cO adA 3 lf]) (vx_runV (As := [.int lp]) (rest := []) ⟨hx, hb, hml, hown, hts⟩ (c_X5_loopAt_o l dC dI cI cJ cZ cO adB adA bs lf lp _ hfl hlo) (cwV 1 hts (gd_V wd_2_28 wd_2_30 wd_p_0 wd_1_1 wd_2_31) rfl rfl rfl (by decide +kernel) ⟨Nat.le_of_ble_eq_true rfl, Nat.le_of_ble_eq_true rfl⟩) (hh_pV (ci := 5) (q := (RX5, TX5, 2)) (q0 := 0) rfl rfl (gT_c _) (gT_call hG hS (va_free hD hS hA [0, 1] rfl)) hK hP hD [0, 1] rfl rfl) rfl rfl hl.1 rfl (lv_room (Nat.le_of_ble_eq_true rfl)) dX5_setLoad_2 ⟨Nat.le_of_ble_eq_true rfl, Nat.le_of_ble_eq_true rfl⟩) hP hD hS hA [0, 1] [] [0, 1] rfl rfl rfl (by decide) rfl rfl rfl (fun E ce q9 H locs h1 hE hP hD hS hc1 hc2 hc3 => ?_) (fun H locs h1 hP hD hS => ?_)
  · skip
    exact hh_prop hQ (rfl) htab hlocks h1 hE hP hK hD hS hc1 hc2 hc3 (Nat.le_of_ble_eq_true rfl) (Nat.le_of_ble_eq_true rfl)
  · skip
    exact absurd h1 (by decide)
set_option maxHeartbeats 4000000 in
set_option maxRecDepth 100000 in
theorem c_X5_setGains_o (l : Launch) (dC : Nat → ClassId) (dI : Nat → Nat → Nat) (cI cJ cZ cO : ClassId) (adB adA : Nat) (bs : Int32) (lf : Nat → Option Nat) (lp np ni nd : Int32) (sz : Nat) (hfl : l.stackTraces = false) (hlo : ¬ lp < (0 : Int32) → ¬ lp < (3 : Int32)) : vx_Met l yX5_setGains (Cond.code yX5_setGains cX5_setGains 6 (some .int) :: wAll) ({ frames := 7, cells := 1, slots := 6, locals := 103 }) (va_Pc [.ref adB, .int lp, .int np, .int ni, .int nd] (gP (dC, dI) [zX5 adB adA bs, zAL cO adA 3 lf] (tyG cI cJ cZ cO) sz (gT (va_A [zX5 adB adA bs, zAL cO adA 3 lf] sz)))) (va_Qi (fun r (_ : Unit) => 1 = 0 ∧ r = (0 : Int32)) (fun _ t => gB (dC, dI) (va_A [zX5 adB adA bs, zAL cO adA 3 lf] sz) [zX5 adB adA bs, zAL cO adA 3 lf] (tyG cI cJ cZ cO) t) (va_A [zX5 adB adA bs, zAL cO adA 3 lf] sz)) (gE (dC, dI) (va_A [zX5 adB adA bs, zAL cO adA 3 lf] sz) [zX5 adB adA bs, zAL cO adA 3 lf] (tyG cI cJ cZ cO) 1) 1 6 (va_A [zX5 adB adA bs, zAL cO adA 3 lf] sz) := by
  refine vx_ofW (cc := cX5_setGains) (maxL := 6) (ret := (some .int)) (by decide) rfl ?_
  intro p e s m args below meth c s₁ B hml htab hv
  obtain ⟨rfl, hsz, hP, hK, hD0, hG⟩ := hv
  have hx := B.exec
  have hb := B.bytes
  have hr := B.returns
  have hts := ht_of B.pre
  have hown : s.vm.findClass RX5 = some m.cls := findClass_of_methodNamed B.named
  have hlocks := B.notSynchronized
  subst hsz
  have hD := hD0.self (sz := s.heap.size)
  generalize hAe : va_A [zX5 adB adA bs, zAL cO adA 3 lf] s.heap.size = A at hD hG ⊢
  have hA : ∀ q : Nat, s.heap.size ≤ q → A q := fun q h => by rw [← hAe]; exact Or.inr h
  have hS : va_S A s.heap s.heap [] := va_S.rf
  have hP : va_P (dC, dI) vwCl [zX5 adB adA bs, zAL cO adA 3 lf] s.heap := hP
  have hl := lv_entry ([.ref adB, .int lp, .int np, .int ni, .int nd]) (n := 6) (Nat.le_of_ble_eq_true rfl)
  rw [lg_entry_eq]
  generalize (lg_sl ([.ref adB, .int lp, .int np, .int ni, .int nd]) ++ List.replicate (6 - (lg_sl ([.ref adB, .int lp, .int np, .int ni, .int nd])).length) Slot.unset).toArray = ls at hl ⊢
  have hl : lv_has ls 6 [(0, .ref adB), (1, .int lp), (2, .int np), (3, .int ni), (4, .int nd)] := hl
  refine hh_name (fun Q hQ => ?_)
  refine lv_aload_n hx hb dX5_setGains_0 rfl (lv_at hl 0 rfl) ?_
  refine lv_iload_n hx hb dX5_setGains_1 rfl (lv_at hl 1 rfl) ?_
  refine hh_xcallq (w2 := [zX5 adB adA bs, zAL cO adA 3 lf]) (vx_runV (As := [.int lp]) (rest := []) ⟨hx, hb, hml, hown, hts⟩ (c_X5_loopAt_o l dC dI cI cJ cZ cO adB adA bs lf lp _ hfl hlo) (cwV 1 hts (gd_V wd_2_28 wd_2_30 wd_p_0 wd_1_1 wd_2_31) rfl rfl rfl (by decide +kernel) ⟨Nat.le_of_ble_eq_true rfl, Nat.le_of_ble_eq_true rfl⟩) (hh_pV (ci := 5) (q := (RX5, TX5, 2)) (q0 := 0) rfl rfl (gT_c _) (gT_call hG hS (va_free hD hS hA [0, 1] rfl)) hK hP hD [0, 1] rfl rfl) rfl rfl hl.1 rfl (lv_room (Nat.le_of_ble_eq_true rfl)) dX5_setGains_2 ⟨Nat.le_of_ble_eq_true rfl, Nat.le_of_ble_eq_true rfl⟩) hP hD hS hA [0, 1] [] [0, 1] rfl rfl rfl (by decide) rfl rfl rfl (fun E ce q9 H locs h1 hE hP hD hS hc1 hc2 hc3 => ?_) (fun H locs h1 hP hD hS => ?_)
  · skip
    exact hh_prop hQ (rfl) htab hlocks h1 hE hP hK hD hS hc1 hc2 hc3 (Nat.le_of_ble_eq_true rfl) (Nat.le_of_ble_eq_true rfl)
  · skip
    exact absurd h1 (by decide)
set_option maxHeartbeats 4000000 in
set_option maxRecDepth 100000 in
theorem c_X5_addPoint_o (l : Launch) (dC : Nat → ClassId) (dI : Nat → Nat → Nat) (cI cJ cZ cO : ClassId) (adB adA : Nat) (bs : Int32) (lf : Nat → Option Nat) (lp mev np ni nd : Int32) (sz : Nat) (hfl : l.stackTraces = false) (hlo : ¬ lp < (0 : Int32) → ¬ lp < (3 : Int32)) : vx_Met l yX5_addPoint (Cond.code yX5_addPoint cX5_addPoint 7 (some .int) :: wAll) ({ frames := 7, cells := 1, slots := 6, locals := 103 }) (va_Pc [.ref adB, .int lp, .int mev, .int np, .int ni, .int nd] (gP (dC, dI) [zX5 adB adA bs, zAL cO adA 3 lf] (tyG cI cJ cZ cO) sz (gT (va_A [zX5 adB adA bs, zAL cO adA 3 lf] sz)))) (va_Qi (fun r (_ : Unit) => 1 = 0 ∧ r = (0 : Int32)) (fun _ t => gB (dC, dI) (va_A [zX5 adB adA bs, zAL cO adA 3 lf] sz) [zX5 adB adA bs, zAL cO adA 3 lf] (tyG cI cJ cZ cO) t) (va_A [zX5 adB adA bs, zAL cO adA 3 lf] sz)) (gE (dC, dI) (va_A [zX5 adB adA bs, zAL cO adA 3 lf] sz) [zX5 adB adA bs, zAL cO adA 3 lf] (tyG cI cJ cZ cO) 1) 1 6 (va_A [zX5 adB adA bs, zAL cO adA 3 lf] sz) := by
  refine vx_ofW (cc := cX5_addPoint) (maxL := 7) (ret := (some .int)) (by decide) rfl ?_
  intro p e s m args below meth c s₁ B hml htab hv
  obtain ⟨rfl, hsz, hP, hK, hD0, hG⟩ := hv
  have hx := B.exec
  have hb := B.bytes
  have hr := B.returns
  have hts := ht_of B.pre
  have hown : s.vm.findClass RX5 = some m.cls := findClass_of_methodNamed B.named
  have hlocks := B.notSynchronized
  subst hsz
  have hD := hD0.self (sz := s.heap.size)
  generalize hAe : va_A [zX5 adB adA bs, zAL cO adA 3 lf] s.heap.size = A at hD hG ⊢
  have hA : ∀ q : Nat, s.heap.size ≤ q → A q := fun q h => by rw [← hAe]; exact Or.inr h
  have hS : va_S A s.heap s.heap [] := va_S.rf
  have hP : va_P (dC, dI) vwCl [zX5 adB adA bs, zAL cO adA 3 lf] s.heap := hP
  have hl := lv_entry ([.ref adB, .int lp, .int mev, .int np, .int ni, .int nd]) (n := 7) (Nat.le_of_ble_eq_true rfl)
  rw [lg_entry_eq]
  generalize (lg_sl ([.ref adB, .int lp, .int mev, .int np, .int ni, .int nd]) ++ List.replicate (7 - (lg_sl ([.ref adB, .int lp, .int mev, .int np, .int ni, .int nd])).length) Slot.unset).toArray = ls at hl ⊢
  have hl : lv_has ls 7 [(0, .ref adB), (1, .int lp), (2, .int mev), (3, .int np), (4, .int ni), (5, .int nd)] := hl
  refine hh_name (fun Q hQ => ?_)
  refine lv_aload_n hx hb dX5_addPoint_0 rfl (lv_at hl 0 rfl) ?_
  refine lv_iload_n hx hb dX5_addPoint_1 rfl (lv_at hl 1 rfl) ?_
  refine hh_xcallq (w2 := [zX5 adB adA bs, zAL cO adA 3 lf]) (vx_runV (As := [.int lp]) (rest := []) ⟨hx, hb, hml, hown, hts⟩ (c_X5_loopAt_o l dC dI cI cJ cZ cO adB adA bs lf lp _ hfl hlo) (cwV 1 hts (gd_V wd_2_28 wd_2_30 wd_p_0 wd_1_1 wd_2_31) rfl rfl rfl (by decide +kernel) ⟨Nat.le_of_ble_eq_true rfl, Nat.le_of_ble_eq_true rfl⟩) (hh_pV (ci := 5) (q := (RX5, TX5, 2)) (q0 := 0) rfl rfl (gT_c _) (gT_call hG hS (va_free hD hS hA [0, 1] rfl)) hK hP hD [0, 1] rfl rfl) rfl rfl hl.1 rfl (lv_room (Nat.le_of_ble_eq_true rfl)) dX5_addPoint_2 ⟨Nat.le_of_ble_eq_true rfl, Nat.le_of_ble_eq_true rfl⟩) hP hD hS hA [0, 1] [] [0, 1] rfl rfl rfl (by decide) rfl rfl rfl (fun E ce q9 H locs h1 hE hP hD hS hc1 hc2 hc3 => ?_) (fun H locs h1 hP hD hS => ?_)
  · skip
    exact hh_prop hQ (rfl) htab hlocks h1 hE hP hK hD hS hc1 hc2 hc3 (Nat.le_of_ble_eq_true rfl) (Nat.le_of_ble_eq_true rfl)
  · skip
    exact absurd h1 (by decide)
set_option maxHeartbeats 4000000 in
set_option maxRecDepth 100000 in
theorem c_X5_setLimits_o (l : Launch) (dC : Nat → ClassId) (dI : Nat → Nat → Nat) (cI cJ cZ cO : ClassId) (adB adA : Nat) (bs : Int32) (lf : Nat → Option Nat) (lp lov hiv : Int32) (sz : Nat) (hfl : l.stackTraces = false) (hlo : ¬ lp < (0 : Int32) → ¬ lp < (3 : Int32)) : vx_Met l yX5_setLimits (Cond.code yX5_setLimits cX5_setLimits 5 none :: wAll) ({ frames := 7, cells := 1, slots := 6, locals := 103 }) (va_Pc [.ref adB, .int lp, .int lov, .int hiv] (gP (dC, dI) [zX5 adB adA bs, zAL cO adA 3 lf] (tyG cI cJ cZ cO) sz (gT (va_A [zX5 adB adA bs, zAL cO adA 3 lf] sz)))) (va_Qv (fun (_ : Unit) => 1 = 0) (fun _ t => gB (dC, dI) (va_A [zX5 adB adA bs, zAL cO adA 3 lf] sz) [zX5 adB adA bs, zAL cO adA 3 lf] (tyG cI cJ cZ cO) t) (va_A [zX5 adB adA bs, zAL cO adA 3 lf] sz)) (gE (dC, dI) (va_A [zX5 adB adA bs, zAL cO adA 3 lf] sz) [zX5 adB adA bs, zAL cO adA 3 lf] (tyG cI cJ cZ cO) 1) 1 6 (va_A [zX5 adB adA bs, zAL cO adA 3 lf] sz) := by
  refine vx_ofW (cc := cX5_setLimits) (maxL := 5) (ret := none) (by decide) rfl ?_
  intro p e s m args below meth c s₁ B hml htab hv
  obtain ⟨rfl, hsz, hP, hK, hD0, hG⟩ := hv
  have hx := B.exec
  have hb := B.bytes
  have hr := B.returns
  have hts := ht_of B.pre
  have hown : s.vm.findClass RX5 = some m.cls := findClass_of_methodNamed B.named
  have hlocks := B.notSynchronized
  subst hsz
  have hD := hD0.self (sz := s.heap.size)
  generalize hAe : va_A [zX5 adB adA bs, zAL cO adA 3 lf] s.heap.size = A at hD hG ⊢
  have hA : ∀ q : Nat, s.heap.size ≤ q → A q := fun q h => by rw [← hAe]; exact Or.inr h
  have hS : va_S A s.heap s.heap [] := va_S.rf
  have hP : va_P (dC, dI) vwCl [zX5 adB adA bs, zAL cO adA 3 lf] s.heap := hP
  have hl := lv_entry ([.ref adB, .int lp, .int lov, .int hiv]) (n := 5) (Nat.le_of_ble_eq_true rfl)
  rw [lg_entry_eq]
  generalize (lg_sl ([.ref adB, .int lp, .int lov, .int hiv]) ++ List.replicate (5 - (lg_sl ([.ref adB, .int lp, .int lov, .int hiv])).length) Slot.unset).toArray = ls at hl ⊢
  have hl : lv_has ls 5 [(0, .ref adB), (1, .int lp), (2, .int lov), (3, .int hiv)] := hl
  refine hh_name (fun Q hQ => ?_)
  refine lv_aload_n hx hb dX5_setLimits_0 rfl (lv_at hl 0 rfl) ?_
  refine lv_iload_n hx hb dX5_setLimits_1 rfl (lv_at hl 1 rfl) ?_
  refine hh_xcallq (w2 := [zX5 adB adA bs, zAL cO adA 3 lf]) (vx_runV (As := [.int lp]) (rest := []) ⟨hx, hb, hml, hown, hts⟩ (c_X5_loopAt_o l dC dI cI cJ cZ cO adB adA bs lf lp _ hfl hlo) (cwV 1 hts (gd_V wd_2_28 wd_2_30 wd_p_0 wd_1_1 wd_2_31) rfl rfl rfl (by decide +kernel) ⟨Nat.le_of_ble_eq_true rfl, Nat.le_of_ble_eq_true rfl⟩) (hh_pV (ci := 5) (q := (RX5, TX5, 2)) (q0 := 0) rfl rfl (gT_c _) (gT_call hG hS (va_free hD hS hA [0, 1] rfl)) hK hP hD [0, 1] rfl rfl) rfl rfl hl.1 rfl (lv_room (Nat.le_of_ble_eq_true rfl)) dX5_setLimits_2 ⟨Nat.le_of_ble_eq_true rfl, Nat.le_of_ble_eq_true rfl⟩) hP hD hS hA [0, 1] [] [0, 1] rfl rfl rfl (by decide) rfl rfl rfl (fun E ce q9 H locs h1 hE hP hD hS hc1 hc2 hc3 => ?_) (fun H locs h1 hP hD hS => ?_)
  · skip
    exact hh_prop hQ (rfl) htab hlocks h1 hE hP hK hD hS hc1 hc2 hc3 (Nat.le_of_ble_eq_true rfl) (Nat.le_of_ble_eq_true rfl)
  · skip
    exact absurd h1 (by decide)
set_option maxHeartbeats 4000000 in
set_option maxRecDepth 100000 in
theorem c_X5_setGuard_o (l : Launch) (dC : Nat → ClassId) (dI : Nat → Nat → Nat) (cI cJ cZ cO : ClassId) (adB adA : Nat) (bs : Int32) (lf : Nat → Option Nat) (lp guv shv : Int32) (sz : Nat) (hfl : l.stackTraces = false) (hlo : ¬ lp < (0 : Int32) → ¬ lp < (3 : Int32)) : vx_Met l yX5_setGuard (Cond.code yX5_setGuard cX5_setGuard 6 (some .int) :: wAll) ({ frames := 7, cells := 1, slots := 6, locals := 103 }) (va_Pc [.ref adB, .int lp, .int guv, .int shv] (gP (dC, dI) [zX5 adB adA bs, zAL cO adA 3 lf] (tyG cI cJ cZ cO) sz (gT (va_A [zX5 adB adA bs, zAL cO adA 3 lf] sz)))) (va_Qi (fun r (_ : Unit) => 1 = 0 ∧ r = (0 : Int32)) (fun _ t => gB (dC, dI) (va_A [zX5 adB adA bs, zAL cO adA 3 lf] sz) [zX5 adB adA bs, zAL cO adA 3 lf] (tyG cI cJ cZ cO) t) (va_A [zX5 adB adA bs, zAL cO adA 3 lf] sz)) (gE (dC, dI) (va_A [zX5 adB adA bs, zAL cO adA 3 lf] sz) [zX5 adB adA bs, zAL cO adA 3 lf] (tyG cI cJ cZ cO) 1) 1 6 (va_A [zX5 adB adA bs, zAL cO adA 3 lf] sz) := by
  refine vx_ofW (cc := cX5_setGuard) (maxL := 6) (ret := (some .int)) (by decide) rfl ?_
  intro p e s m args below meth c s₁ B hml htab hv
  obtain ⟨rfl, hsz, hP, hK, hD0, hG⟩ := hv
  have hx := B.exec
  have hb := B.bytes
  have hr := B.returns
  have hts := ht_of B.pre
  have hown : s.vm.findClass RX5 = some m.cls := findClass_of_methodNamed B.named
  have hlocks := B.notSynchronized
  subst hsz
  have hD := hD0.self (sz := s.heap.size)
  generalize hAe : va_A [zX5 adB adA bs, zAL cO adA 3 lf] s.heap.size = A at hD hG ⊢
  have hA : ∀ q : Nat, s.heap.size ≤ q → A q := fun q h => by rw [← hAe]; exact Or.inr h
  have hS : va_S A s.heap s.heap [] := va_S.rf
  have hP : va_P (dC, dI) vwCl [zX5 adB adA bs, zAL cO adA 3 lf] s.heap := hP
  have hl := lv_entry ([.ref adB, .int lp, .int guv, .int shv]) (n := 6) (Nat.le_of_ble_eq_true rfl)
  rw [lg_entry_eq]
  generalize (lg_sl ([.ref adB, .int lp, .int guv, .int shv]) ++ List.replicate (6 - (lg_sl ([.ref adB, .int lp, .int guv, .int shv])).length) Slot.unset).toArray = ls at hl ⊢
  have hl : lv_has ls 6 [(0, .ref adB), (1, .int lp), (2, .int guv), (3, .int shv)] := hl
  refine hh_name (fun Q hQ => ?_)
  refine lv_aload_n hx hb dX5_setGuard_0 rfl (lv_at hl 0 rfl) ?_
  refine lv_iload_n hx hb dX5_setGuard_1 rfl (lv_at hl 1 rfl) ?_
  refine hh_xcallq (w2 := [zX5 adB adA bs, zAL cO adA 3 lf]) (vx_runV (As := [.int lp]) (rest := []) ⟨hx, hb, hml, hown, hts⟩ (c_X5_loopAt_o l dC dI cI cJ cZ cO adB adA bs lf lp _ hfl hlo) (cwV 1 hts (gd_V wd_2_28 wd_2_30 wd_p_0 wd_1_1 wd_2_31) rfl rfl rfl (by decide +kernel) ⟨Nat.le_of_ble_eq_true rfl, Nat.le_of_ble_eq_true rfl⟩) (hh_pV (ci := 5) (q := (RX5, TX5, 2)) (q0 := 0) rfl rfl (gT_c _) (gT_call hG hS (va_free hD hS hA [0, 1] rfl)) hK hP hD [0, 1] rfl rfl) rfl rfl hl.1 rfl (lv_room (Nat.le_of_ble_eq_true rfl)) dX5_setGuard_2 ⟨Nat.le_of_ble_eq_true rfl, Nat.le_of_ble_eq_true rfl⟩) hP hD hS hA [0, 1] [] [0, 1] rfl rfl rfl (by decide) rfl rfl rfl (fun E ce q9 H locs h1 hE hP hD hS hc1 hc2 hc3 => ?_) (fun H locs h1 hP hD hS => ?_)
  · skip
    exact hh_prop hQ (rfl) htab hlocks h1 hE hP hK hD hS hc1 hc2 hc3 (Nat.le_of_ble_eq_true rfl) (Nat.le_of_ble_eq_true rfl)
  · skip
    exact absurd h1 (by decide)
set_option maxHeartbeats 4000000 in
set_option maxRecDepth 100000 in
theorem c_X5_setSetpoint_o (l : Launch) (dC : Nat → ClassId) (dI : Nat → Nat → Nat) (cI cJ cZ cO : ClassId) (adB adA : Nat) (bs : Int32) (lf : Nat → Option Nat) (lp spv : Int32) (sz : Nat) (hfl : l.stackTraces = false) (hlo : ¬ lp < (0 : Int32) → ¬ lp < (3 : Int32)) : vx_Met l yX5_setSetpoint (Cond.code yX5_setSetpoint cX5_setSetpoint 6 (some .int) :: wAll) ({ frames := 7, cells := 1, slots := 6, locals := 103 }) (va_Pc [.ref adB, .int lp, .int spv] (gP (dC, dI) [zX5 adB adA bs, zAL cO adA 3 lf] (tyG cI cJ cZ cO) sz (gT (va_A [zX5 adB adA bs, zAL cO adA 3 lf] sz)))) (va_Qi (fun r (_ : Unit) => 1 = 0 ∧ r = (0 : Int32)) (fun _ t => gB (dC, dI) (va_A [zX5 adB adA bs, zAL cO adA 3 lf] sz) [zX5 adB adA bs, zAL cO adA 3 lf] (tyG cI cJ cZ cO) t) (va_A [zX5 adB adA bs, zAL cO adA 3 lf] sz)) (gE (dC, dI) (va_A [zX5 adB adA bs, zAL cO adA 3 lf] sz) [zX5 adB adA bs, zAL cO adA 3 lf] (tyG cI cJ cZ cO) 1) 1 6 (va_A [zX5 adB adA bs, zAL cO adA 3 lf] sz) := by
  refine vx_ofW (cc := cX5_setSetpoint) (maxL := 6) (ret := (some .int)) (by decide) rfl ?_
  intro p e s m args below meth c s₁ B hml htab hv
  obtain ⟨rfl, hsz, hP, hK, hD0, hG⟩ := hv
  have hx := B.exec
  have hb := B.bytes
  have hr := B.returns
  have hts := ht_of B.pre
  have hown : s.vm.findClass RX5 = some m.cls := findClass_of_methodNamed B.named
  have hlocks := B.notSynchronized
  subst hsz
  have hD := hD0.self (sz := s.heap.size)
  generalize hAe : va_A [zX5 adB adA bs, zAL cO adA 3 lf] s.heap.size = A at hD hG ⊢
  have hA : ∀ q : Nat, s.heap.size ≤ q → A q := fun q h => by rw [← hAe]; exact Or.inr h
  have hS : va_S A s.heap s.heap [] := va_S.rf
  have hP : va_P (dC, dI) vwCl [zX5 adB adA bs, zAL cO adA 3 lf] s.heap := hP
  have hl := lv_entry ([.ref adB, .int lp, .int spv]) (n := 6) (Nat.le_of_ble_eq_true rfl)
  rw [lg_entry_eq]
  generalize (lg_sl ([.ref adB, .int lp, .int spv]) ++ List.replicate (6 - (lg_sl ([.ref adB, .int lp, .int spv])).length) Slot.unset).toArray = ls at hl ⊢
  have hl : lv_has ls 6 [(0, .ref adB), (1, .int lp), (2, .int spv)] := hl
  refine hh_name (fun Q hQ => ?_)
  refine lv_aload_n hx hb dX5_setSetpoint_0 rfl (lv_at hl 0 rfl) ?_
  refine lv_iload_n hx hb dX5_setSetpoint_1 rfl (lv_at hl 1 rfl) ?_
  refine hh_xcallq (w2 := [zX5 adB adA bs, zAL cO adA 3 lf]) (vx_runV (As := [.int lp]) (rest := []) ⟨hx, hb, hml, hown, hts⟩ (c_X5_loopAt_o l dC dI cI cJ cZ cO adB adA bs lf lp _ hfl hlo) (cwV 1 hts (gd_V wd_2_28 wd_2_30 wd_p_0 wd_1_1 wd_2_31) rfl rfl rfl (by decide +kernel) ⟨Nat.le_of_ble_eq_true rfl, Nat.le_of_ble_eq_true rfl⟩) (hh_pV (ci := 5) (q := (RX5, TX5, 2)) (q0 := 0) rfl rfl (gT_c _) (gT_call hG hS (va_free hD hS hA [0, 1] rfl)) hK hP hD [0, 1] rfl rfl) rfl rfl hl.1 rfl (lv_room (Nat.le_of_ble_eq_true rfl)) dX5_setSetpoint_2 ⟨Nat.le_of_ble_eq_true rfl, Nat.le_of_ble_eq_true rfl⟩) hP hD hS hA [0, 1] [] [0, 1] rfl rfl rfl (by decide) rfl rfl rfl (fun E ce q9 H locs h1 hE hP hD hS hc1 hc2 hc3 => ?_) (fun H locs h1 hP hD hS => ?_)
  · skip
    exact hh_prop hQ (rfl) htab hlocks h1 hE hP hK hD hS hc1 hc2 hc3 (Nat.le_of_ble_eq_true rfl) (Nat.le_of_ble_eq_true rfl)
  · skip
    exact absurd h1 (by decide)
set_option maxHeartbeats 4000000 in
set_option maxRecDepth 100000 in
theorem c_X5_setHand_o (l : Launch) (dC : Nat → ClassId) (dI : Nat → Nat → Nat) (cI cJ cZ cO : ClassId) (adB adA : Nat) (bs : Int32) (lf : Nat → Option Nat) (lp hav : Int32) (sz : Nat) (hfl : l.stackTraces = false) (hlo : ¬ lp < (0 : Int32) → ¬ lp < (3 : Int32)) : vx_Met l yX5_setHand (Cond.code yX5_setHand cX5_setHand 6 (some .int) :: wAll) ({ frames := 7, cells := 1, slots := 6, locals := 103 }) (va_Pc [.ref adB, .int lp, .int hav] (gP (dC, dI) [zX5 adB adA bs, zAL cO adA 3 lf] (tyG cI cJ cZ cO) sz (gT (va_A [zX5 adB adA bs, zAL cO adA 3 lf] sz)))) (va_Qi (fun r (_ : Unit) => 1 = 0 ∧ r = (0 : Int32)) (fun _ t => gB (dC, dI) (va_A [zX5 adB adA bs, zAL cO adA 3 lf] sz) [zX5 adB adA bs, zAL cO adA 3 lf] (tyG cI cJ cZ cO) t) (va_A [zX5 adB adA bs, zAL cO adA 3 lf] sz)) (gE (dC, dI) (va_A [zX5 adB adA bs, zAL cO adA 3 lf] sz) [zX5 adB adA bs, zAL cO adA 3 lf] (tyG cI cJ cZ cO) 1) 1 6 (va_A [zX5 adB adA bs, zAL cO adA 3 lf] sz) := by
  refine vx_ofW (cc := cX5_setHand) (maxL := 6) (ret := (some .int)) (by decide) rfl ?_
  intro p e s m args below meth c s₁ B hml htab hv
  obtain ⟨rfl, hsz, hP, hK, hD0, hG⟩ := hv
  have hx := B.exec
  have hb := B.bytes
  have hr := B.returns
  have hts := ht_of B.pre
  have hown : s.vm.findClass RX5 = some m.cls := findClass_of_methodNamed B.named
  have hlocks := B.notSynchronized
  subst hsz
  have hD := hD0.self (sz := s.heap.size)
  generalize hAe : va_A [zX5 adB adA bs, zAL cO adA 3 lf] s.heap.size = A at hD hG ⊢
  have hA : ∀ q : Nat, s.heap.size ≤ q → A q := fun q h => by rw [← hAe]; exact Or.inr h
  have hS : va_S A s.heap s.heap [] := va_S.rf
  have hP : va_P (dC, dI) vwCl [zX5 adB adA bs, zAL cO adA 3 lf] s.heap := hP
  have hl := lv_entry ([.ref adB, .int lp, .int hav]) (n := 6) (Nat.le_of_ble_eq_true rfl)
  rw [lg_entry_eq]
  generalize (lg_sl ([.ref adB, .int lp, .int hav]) ++ List.replicate (6 - (lg_sl ([.ref adB, .int lp, .int hav])).length) Slot.unset).toArray = ls at hl ⊢
  have hl : lv_has ls 6 [(0, .ref adB), (1, .int lp), (2, .int hav)] := hl
  refine hh_name (fun Q hQ => ?_)
  refine lv_aload_n hx hb dX5_setHand_0 rfl (lv_at hl 0 rfl) ?_
  refine lv_iload_n hx hb dX5_setHand_1 rfl (lv_at hl 1 rfl) ?_
  refine hh_xcallq (w2 := [zX5 adB adA bs, zAL cO adA 3 lf]) (vx_runV (As := [.int lp]) (rest := []) ⟨hx, hb, hml, hown, hts⟩ (c_X5_loopAt_o l dC dI cI cJ cZ cO adB adA bs lf lp _ hfl hlo) (cwV 1 hts (gd_V wd_2_28 wd_2_30 wd_p_0 wd_1_1 wd_2_31) rfl rfl rfl (by decide +kernel) ⟨Nat.le_of_ble_eq_true rfl, Nat.le_of_ble_eq_true rfl⟩) (hh_pV (ci := 5) (q := (RX5, TX5, 2)) (q0 := 0) rfl rfl (gT_c _) (gT_call hG hS (va_free hD hS hA [0, 1] rfl)) hK hP hD [0, 1] rfl rfl) rfl rfl hl.1 rfl (lv_room (Nat.le_of_ble_eq_true rfl)) dX5_setHand_2 ⟨Nat.le_of_ble_eq_true rfl, Nat.le_of_ble_eq_true rfl⟩) hP hD hS hA [0, 1] [] [0, 1] rfl rfl rfl (by decide) rfl rfl rfl (fun E ce q9 H locs h1 hE hP hD hS hc1 hc2 hc3 => ?_) (fun H locs h1 hP hD hS => ?_)
  · skip
    exact hh_prop hQ (rfl) htab hlocks h1 hE hP hK hD hS hc1 hc2 hc3 (Nat.le_of_ble_eq_true rfl) (Nat.le_of_ble_eq_true rfl)
  · skip
    exact absurd h1 (by decide)
set_option maxHeartbeats 4000000 in
set_option maxRecDepth 100000 in
theorem c_X5_setTies_o (l : Launch) (dC : Nat → ClassId) (dI : Nat → Nat → Nat) (cI cJ cZ cO : ClassId) (adB adA : Nat) (bs : Int32) (lf : Nat → Option Nat) (lp fov mav : Int32) (sz : Nat) (hfl : l.stackTraces = false) (hlo : ¬ lp < (0 : Int32) → ¬ lp < (3 : Int32)) : vx_Met l yX5_setTies (Cond.code yX5_setTies cX5_setTies 5 none :: wAll) ({ frames := 7, cells := 1, slots := 6, locals := 103 }) (va_Pc [.ref adB, .int lp, .int fov, .int mav] (gP (dC, dI) [zX5 adB adA bs, zAL cO adA 3 lf] (tyG cI cJ cZ cO) sz (gT (va_A [zX5 adB adA bs, zAL cO adA 3 lf] sz)))) (va_Qv (fun (_ : Unit) => 1 = 0) (fun _ t => gB (dC, dI) (va_A [zX5 adB adA bs, zAL cO adA 3 lf] sz) [zX5 adB adA bs, zAL cO adA 3 lf] (tyG cI cJ cZ cO) t) (va_A [zX5 adB adA bs, zAL cO adA 3 lf] sz)) (gE (dC, dI) (va_A [zX5 adB adA bs, zAL cO adA 3 lf] sz) [zX5 adB adA bs, zAL cO adA 3 lf] (tyG cI cJ cZ cO) 1) 1 6 (va_A [zX5 adB adA bs, zAL cO adA 3 lf] sz) := by
  refine vx_ofW (cc := cX5_setTies) (maxL := 5) (ret := none) (by decide) rfl ?_
  intro p e s m args below meth c s₁ B hml htab hv
  obtain ⟨rfl, hsz, hP, hK, hD0, hG⟩ := hv
  have hx := B.exec
  have hb := B.bytes
  have hr := B.returns
  have hts := ht_of B.pre
  have hown : s.vm.findClass RX5 = some m.cls := findClass_of_methodNamed B.named
  have hlocks := B.notSynchronized
  subst hsz
  have hD := hD0.self (sz := s.heap.size)
  generalize hAe : va_A [zX5 adB adA bs, zAL cO adA 3 lf] s.heap.size = A at hD hG ⊢
  have hA : ∀ q : Nat, s.heap.size ≤ q → A q := fun q h => by rw [← hAe]; exact Or.inr h
  have hS : va_S A s.heap s.heap [] := va_S.rf
  have hP : va_P (dC, dI) vwCl [zX5 adB adA bs, zAL cO adA 3 lf] s.heap := hP
  have hl := lv_entry ([.ref adB, .int lp, .int fov, .int mav]) (n := 5) (Nat.le_of_ble_eq_true rfl)
  rw [lg_entry_eq]
  generalize (lg_sl ([.ref adB, .int lp, .int fov, .int mav]) ++ List.replicate (5 - (lg_sl ([.ref adB, .int lp, .int fov, .int mav])).length) Slot.unset).toArray = ls at hl ⊢
  have hl : lv_has ls 5 [(0, .ref adB), (1, .int lp), (2, .int fov), (3, .int mav)] := hl
  refine hh_name (fun Q hQ => ?_)
  refine lv_aload_n hx hb dX5_setTies_0 rfl (lv_at hl 0 rfl) ?_
  refine lv_iload_n hx hb dX5_setTies_1 rfl (lv_at hl 1 rfl) ?_
  refine hh_xcallq (w2 := [zX5 adB adA bs, zAL cO adA 3 lf]) (vx_runV (As := [.int lp]) (rest := []) ⟨hx, hb, hml, hown, hts⟩ (c_X5_loopAt_o l dC dI cI cJ cZ cO adB adA bs lf lp _ hfl hlo) (cwV 1 hts (gd_V wd_2_28 wd_2_30 wd_p_0 wd_1_1 wd_2_31) rfl rfl rfl (by decide +kernel) ⟨Nat.le_of_ble_eq_true rfl, Nat.le_of_ble_eq_true rfl⟩) (hh_pV (ci := 5) (q := (RX5, TX5, 2)) (q0 := 0) rfl rfl (gT_c _) (gT_call hG hS (va_free hD hS hA [0, 1] rfl)) hK hP hD [0, 1] rfl rfl) rfl rfl hl.1 rfl (lv_room (Nat.le_of_ble_eq_true rfl)) dX5_setTies_2 ⟨Nat.le_of_ble_eq_true rfl, Nat.le_of_ble_eq_true rfl⟩) hP hD hS hA [0, 1] [] [0, 1] rfl rfl rfl (by decide) rfl rfl rfl (fun E ce q9 H locs h1 hE hP hD hS hc1 hc2 hc3 => ?_) (fun H locs h1 hP hD hS => ?_)
  · skip
    exact hh_prop hQ (rfl) htab hlocks h1 hE hP hK hD hS hc1 hc2 hc3 (Nat.le_of_ble_eq_true rfl) (Nat.le_of_ble_eq_true rfl)
  · skip
    exact absurd h1 (by decide)
set_option maxHeartbeats 4000000 in
set_option maxRecDepth 100000 in
theorem c_X5_setMode_o (l : Launch) (dC : Nat → ClassId) (dI : Nat → Nat → Nat) (cI cJ cZ cO : ClassId) (adB adA : Nat) (bs : Int32) (lf : Nat → Option Nat) (lp mov : Int32) (sz : Nat) (hfl : l.stackTraces = false) (hlo : ¬ lp < (0 : Int32) → ¬ lp < (3 : Int32)) : vx_Met l yX5_setMode (Cond.code yX5_setMode cX5_setMode 5 (some .int) :: wAll) ({ frames := 7, cells := 1, slots := 6, locals := 103 }) (va_Pc [.ref adB, .int lp, .int mov] (gP (dC, dI) [zX5 adB adA bs, zAL cO adA 3 lf] (tyG cI cJ cZ cO) sz (gT (va_A [zX5 adB adA bs, zAL cO adA 3 lf] sz)))) (va_Qi (fun r (_ : Unit) => 1 = 0 ∧ r = (0 : Int32)) (fun _ t => gB (dC, dI) (va_A [zX5 adB adA bs, zAL cO adA 3 lf] sz) [zX5 adB adA bs, zAL cO adA 3 lf] (tyG cI cJ cZ cO) t) (va_A [zX5 adB adA bs, zAL cO adA 3 lf] sz)) (gE (dC, dI) (va_A [zX5 adB adA bs, zAL cO adA 3 lf] sz) [zX5 adB adA bs, zAL cO adA 3 lf] (tyG cI cJ cZ cO) 1) 1 6 (va_A [zX5 adB adA bs, zAL cO adA 3 lf] sz) := by
  refine vx_ofW (cc := cX5_setMode) (maxL := 5) (ret := (some .int)) (by decide) rfl ?_
  intro p e s m args below meth c s₁ B hml htab hv
  obtain ⟨rfl, hsz, hP, hK, hD0, hG⟩ := hv
  have hx := B.exec
  have hb := B.bytes
  have hr := B.returns
  have hts := ht_of B.pre
  have hown : s.vm.findClass RX5 = some m.cls := findClass_of_methodNamed B.named
  have hlocks := B.notSynchronized
  subst hsz
  have hD := hD0.self (sz := s.heap.size)
  generalize hAe : va_A [zX5 adB adA bs, zAL cO adA 3 lf] s.heap.size = A at hD hG ⊢
  have hA : ∀ q : Nat, s.heap.size ≤ q → A q := fun q h => by rw [← hAe]; exact Or.inr h
  have hS : va_S A s.heap s.heap [] := va_S.rf
  have hP : va_P (dC, dI) vwCl [zX5 adB adA bs, zAL cO adA 3 lf] s.heap := hP
  have hl := lv_entry ([.ref adB, .int lp, .int mov]) (n := 5) (Nat.le_of_ble_eq_true rfl)
  rw [lg_entry_eq]
  generalize (lg_sl ([.ref adB, .int lp, .int mov]) ++ List.replicate (5 - (lg_sl ([.ref adB, .int lp, .int mov])).length) Slot.unset).toArray = ls at hl ⊢
  have hl : lv_has ls 5 [(0, .ref adB), (1, .int lp), (2, .int mov)] := hl
  refine hh_name (fun Q hQ => ?_)
  refine lv_aload_n hx hb dX5_setMode_0 rfl (lv_at hl 0 rfl) ?_
  refine lv_iload_n hx hb dX5_setMode_1 rfl (lv_at hl 1 rfl) ?_
  refine hh_xcallq (w2 := [zX5 adB adA bs, zAL cO adA 3 lf]) (vx_runV (As := [.int lp]) (rest := []) ⟨hx, hb, hml, hown, hts⟩ (c_X5_loopAt_o l dC dI cI cJ cZ cO adB adA bs lf lp _ hfl hlo) (cwV 1 hts (gd_V wd_2_28 wd_2_30 wd_p_0 wd_1_1 wd_2_31) rfl rfl rfl (by decide +kernel) ⟨Nat.le_of_ble_eq_true rfl, Nat.le_of_ble_eq_true rfl⟩) (hh_pV (ci := 5) (q := (RX5, TX5, 2)) (q0 := 0) rfl rfl (gT_c _) (gT_call hG hS (va_free hD hS hA [0, 1] rfl)) hK hP hD [0, 1] rfl rfl) rfl rfl hl.1 rfl (lv_room (Nat.le_of_ble_eq_true rfl)) dX5_setMode_2 ⟨Nat.le_of_ble_eq_true rfl, Nat.le_of_ble_eq_true rfl⟩) hP hD hS hA [0, 1] [] [0, 1] rfl rfl rfl (by decide) rfl rfl rfl (fun E ce q9 H locs h1 hE hP hD hS hc1 hc2 hc3 => ?_) (fun H locs h1 hP hD hS => ?_)
  · skip
    exact hh_prop hQ (rfl) htab hlocks h1 hE hP hK hD hS hc1 hc2 hc3 (Nat.le_of_ble_eq_true rfl) (Nat.le_of_ble_eq_true rfl)
  · skip
    exact absurd h1 (by decide)
set_option maxHeartbeats 4000000 in
set_option maxRecDepth 100000 in
theorem c_X5_measure_o (l : Launch) (dC : Nat → ClassId) (dI : Nat → Nat → Nat) (cI cJ cZ cO : ClassId) (adB adA : Nat) (bs : Int32) (lf : Nat → Option Nat) (lp : Int32) (sz : Nat) (hfl : l.stackTraces = false) (hlo : ¬ lp < (0 : Int32) → ¬ lp < (3 : Int32)) : vx_Met l yX5_measure (Cond.code yX5_measure cX5_measure 2 (some .long) :: wAll) ({ frames := 7, cells := 1, slots := 6, locals := 103 }) (va_Pc [.ref adB, .int lp] (gP (dC, dI) [zX5 adB adA bs, zAL cO adA 3 lf] (tyG cI cJ cZ cO) sz (gT (va_A [zX5 adB adA bs, zAL cO adA 3 lf] sz)))) (va_Ql (fun r (_ : Unit) => 1 = 0 ∧ r = (0 : Int64)) (fun _ t => gB (dC, dI) (va_A [zX5 adB adA bs, zAL cO adA 3 lf] sz) [zX5 adB adA bs, zAL cO adA 3 lf] (tyG cI cJ cZ cO) t) (va_A [zX5 adB adA bs, zAL cO adA 3 lf] sz)) (gE (dC, dI) (va_A [zX5 adB adA bs, zAL cO adA 3 lf] sz) [zX5 adB adA bs, zAL cO adA 3 lf] (tyG cI cJ cZ cO) 1) 1 6 (va_A [zX5 adB adA bs, zAL cO adA 3 lf] sz) := by
  refine vx_ofW (cc := cX5_measure) (maxL := 2) (ret := (some .long)) (by decide) rfl ?_
  intro p e s m args below meth c s₁ B hml htab hv
  obtain ⟨rfl, hsz, hP, hK, hD0, hG⟩ := hv
  have hx := B.exec
  have hb := B.bytes
  have hr := B.returns
  have hts := ht_of B.pre
  have hown : s.vm.findClass RX5 = some m.cls := findClass_of_methodNamed B.named
  have hlocks := B.notSynchronized
  subst hsz
  have hD := hD0.self (sz := s.heap.size)
  generalize hAe : va_A [zX5 adB adA bs, zAL cO adA 3 lf] s.heap.size = A at hD hG ⊢
  have hA : ∀ q : Nat, s.heap.size ≤ q → A q := fun q h => by rw [← hAe]; exact Or.inr h
  have hS : va_S A s.heap s.heap [] := va_S.rf
  have hP : va_P (dC, dI) vwCl [zX5 adB adA bs, zAL cO adA 3 lf] s.heap := hP
  have hl := lv_entry ([.ref adB, .int lp]) (n := 2) (Nat.le_of_ble_eq_true rfl)
  rw [lg_entry_eq]
  generalize (lg_sl ([.ref adB, .int lp]) ++ List.replicate (2 - (lg_sl ([.ref adB, .int lp])).length) Slot.unset).toArray = ls at hl ⊢
  have hl : lv_has ls 2 [(0, .ref adB), (1, .int lp)] := hl
  refine hh_name (fun Q hQ => ?_)
  refine lv_aload_n hx hb dX5_measure_0 rfl (lv_at hl 0 rfl) ?_
  refine lv_iload_n hx hb dX5_measure_1 rfl (lv_at hl 1 rfl) ?_
  refine hh_xcallq (w2 := [zX5 adB adA bs, zAL cO adA 3 lf]) (vx_runV (As := [.int lp]) (rest := []) ⟨hx, hb, hml, hown, hts⟩ (c_X5_loopAt_o l dC dI cI cJ cZ cO adB adA bs lf lp _ hfl hlo) (cwV 1 hts (gd_V wd_2_28 wd_2_30 wd_p_0 wd_1_1 wd_2_31) rfl rfl rfl (by decide +kernel) ⟨Nat.le_of_ble_eq_true rfl, Nat.le_of_ble_eq_true rfl⟩) (hh_pV (ci := 5) (q := (RX5, TX5, 2)) (q0 := 0) rfl rfl (gT_c _) (gT_call hG hS (va_free hD hS hA [0, 1] rfl)) hK hP hD [0, 1] rfl rfl) rfl rfl hl.1 rfl (lv_room (Nat.le_of_ble_eq_true rfl)) dX5_measure_2 ⟨Nat.le_of_ble_eq_true rfl, Nat.le_of_ble_eq_true rfl⟩) hP hD hS hA [0, 1] [] [0, 1] rfl rfl rfl (by decide) rfl rfl rfl (fun E ce q9 H locs h1 hE hP hD hS hc1 hc2 hc3 => ?_) (fun H locs h1 hP hD hS => ?_)
  · skip
    exact hh_prop hQ (rfl) htab hlocks h1 hE hP hK hD hS hc1 hc2 hc3 (Nat.le_of_ble_eq_true rfl) (Nat.le_of_ble_eq_true rfl)
  · skip
    exact absurd h1 (by decide)
set_option maxHeartbeats 4000000 in
set_option maxRecDepth 100000 in
theorem c_X5_output_o (l : Launch) (dC : Nat → ClassId) (dI : Nat → Nat → Nat) (cI cJ cZ cO : ClassId) (adB adA : Nat) (bs : Int32) (lf : Nat → Option Nat) (lp : Int32) (sz : Nat) (hfl : l.stackTraces = false) (hlo : ¬ lp < (0 : Int32) → ¬ lp < (3 : Int32)) : vx_Met l yX5_output (Cond.code yX5_output cX5_output 2 (some .long) :: wAll) ({ frames := 7, cells := 1, slots := 6, locals := 103 }) (va_Pc [.ref adB, .int lp] (gP (dC, dI) [zX5 adB adA bs, zAL cO adA 3 lf] (tyG cI cJ cZ cO) sz (gT (va_A [zX5 adB adA bs, zAL cO adA 3 lf] sz)))) (va_Ql (fun r (_ : Unit) => 1 = 0 ∧ r = (0 : Int64)) (fun _ t => gB (dC, dI) (va_A [zX5 adB adA bs, zAL cO adA 3 lf] sz) [zX5 adB adA bs, zAL cO adA 3 lf] (tyG cI cJ cZ cO) t) (va_A [zX5 adB adA bs, zAL cO adA 3 lf] sz)) (gE (dC, dI) (va_A [zX5 adB adA bs, zAL cO adA 3 lf] sz) [zX5 adB adA bs, zAL cO adA 3 lf] (tyG cI cJ cZ cO) 1) 1 6 (va_A [zX5 adB adA bs, zAL cO adA 3 lf] sz) := by
  refine vx_ofW (cc := cX5_output) (maxL := 2) (ret := (some .long)) (by decide) rfl ?_
  intro p e s m args below meth c s₁ B hml htab hv
  obtain ⟨rfl, hsz, hP, hK, hD0, hG⟩ := hv
  have hx := B.exec
  have hb := B.bytes
  have hr := B.returns
  have hts := ht_of B.pre
  have hown : s.vm.findClass RX5 = some m.cls := findClass_of_methodNamed B.named
  have hlocks := B.notSynchronized
  subst hsz
  have hD := hD0.self (sz := s.heap.size)
  generalize hAe : va_A [zX5 adB adA bs, zAL cO adA 3 lf] s.heap.size = A at hD hG ⊢
  have hA : ∀ q : Nat, s.heap.size ≤ q → A q := fun q h => by rw [← hAe]; exact Or.inr h
  have hS : va_S A s.heap s.heap [] := va_S.rf
  have hP : va_P (dC, dI) vwCl [zX5 adB adA bs, zAL cO adA 3 lf] s.heap := hP
  have hl := lv_entry ([.ref adB, .int lp]) (n := 2) (Nat.le_of_ble_eq_true rfl)
  rw [lg_entry_eq]
  generalize (lg_sl ([.ref adB, .int lp]) ++ List.replicate (2 - (lg_sl ([.ref adB, .int lp])).length) Slot.unset).toArray = ls at hl ⊢
  have hl : lv_has ls 2 [(0, .ref adB), (1, .int lp)] := hl
  refine hh_name (fun Q hQ => ?_)
  refine lv_aload_n hx hb dX5_output_0 rfl (lv_at hl 0 rfl) ?_
  refine lv_iload_n hx hb dX5_output_1 rfl (lv_at hl 1 rfl) ?_
  refine hh_xcallq (w2 := [zX5 adB adA bs, zAL cO adA 3 lf]) (vx_runV (As := [.int lp]) (rest := []) ⟨hx, hb, hml, hown, hts⟩ (c_X5_loopAt_o l dC dI cI cJ cZ cO adB adA bs lf lp _ hfl hlo) (cwV 1 hts (gd_V wd_2_28 wd_2_30 wd_p_0 wd_1_1 wd_2_31) rfl rfl rfl (by decide +kernel) ⟨Nat.le_of_ble_eq_true rfl, Nat.le_of_ble_eq_true rfl⟩) (hh_pV (ci := 5) (q := (RX5, TX5, 2)) (q0 := 0) rfl rfl (gT_c _) (gT_call hG hS (va_free hD hS hA [0, 1] rfl)) hK hP hD [0, 1] rfl rfl) rfl rfl hl.1 rfl (lv_room (Nat.le_of_ble_eq_true rfl)) dX5_output_2 ⟨Nat.le_of_ble_eq_true rfl, Nat.le_of_ble_eq_true rfl⟩) hP hD hS hA [0, 1] [] [0, 1] rfl rfl rfl (by decide) rfl rfl rfl (fun E ce q9 H locs h1 hE hP hD hS hc1 hc2 hc3 => ?_) (fun H locs h1 hP hD hS => ?_)
  · skip
    exact hh_prop hQ (rfl) htab hlocks h1 hE hP hK hD hS hc1 hc2 hc3 (Nat.le_of_ble_eq_true rfl) (Nat.le_of_ble_eq_true rfl)
  · skip
    exact absurd h1 (by decide)
set_option maxHeartbeats 4000000 in
set_option maxRecDepth 100000 in
theorem c_X5_outputByIncrements_o (l : Launch) (dC : Nat → ClassId) (dI : Nat → Nat → Nat) (cI cJ cZ cO : ClassId) (adB adA : Nat) (bs : Int32) (lf : Nat → Option Nat) (lp : Int32) (sz : Nat) (hfl : l.stackTraces = false) (hlo : ¬ lp < (0 : Int32) → ¬ lp < (3 : Int32)) : vx_Met l yX5_outputByIncrements (Cond.code yX5_outputByIncrements cX5_outputByIncrements 2 (some .long) :: wAll) ({ frames := 7, cells := 1, slots := 6, locals := 103 }) (va_Pc [.ref adB, .int lp] (gP (dC, dI) [zX5 adB adA bs, zAL cO adA 3 lf] (tyG cI cJ cZ cO) sz (gT (va_A [zX5 adB adA bs, zAL cO adA 3 lf] sz)))) (va_Ql (fun r (_ : Unit) => 1 = 0 ∧ r = (0 : Int64)) (fun _ t => gB (dC, dI) (va_A [zX5 adB adA bs, zAL cO adA 3 lf] sz) [zX5 adB adA bs, zAL cO adA 3 lf] (tyG cI cJ cZ cO) t) (va_A [zX5 adB adA bs, zAL cO adA 3 lf] sz)) (gE (dC, dI) (va_A [zX5 adB adA bs, zAL cO adA 3 lf] sz) [zX5 adB adA bs, zAL cO adA 3 lf] (tyG cI cJ cZ cO) 1) 1 6 (va_A [zX5 adB adA bs, zAL cO adA 3 lf] sz) := by
  refine vx_ofW (cc := cX5_outputByIncrements) (maxL := 2) (ret := (some .long)) (by decide) rfl ?_
  intro p e s m args below meth c s₁ B hml htab hv
  obtain ⟨rfl, hsz, hP, hK, hD0, hG⟩ := hv
  have hx := B.exec
  have hb := B.bytes
  have hr := B.returns
  have hts := ht_of B.pre
  have hown : s.vm.findClass RX5 = some m.cls := findClass_of_methodNamed B.named
  have hlocks := B.notSynchronized
  subst hsz
  have hD := hD0.self (sz := s.heap.size)
  generalize hAe : va_A [zX5 adB adA bs, zAL cO adA 3 lf] s.heap.size = A at hD hG ⊢
  have hA : ∀ q : Nat, s.heap.size ≤ q → A q := fun q h => by rw [← hAe]; exact Or.inr h
  have hS : va_S A s.heap s.heap [] := va_S.rf
  have hP : va_P (dC, dI) vwCl [zX5 adB adA bs, zAL cO adA 3 lf] s.heap := hP
  have hl := lv_entry ([.ref adB, .int lp]) (n := 2) (Nat.le_of_ble_eq_true rfl)
  rw [lg_entry_eq]
  generalize (lg_sl ([.ref adB, .int lp]) ++ List.replicate (2 - (lg_sl ([.ref adB, .int lp])).length) Slot.unset).toArray = ls at hl ⊢
  have hl : lv_has ls 2 [(0, .ref adB), (1, .int lp)] := hl
  refine hh_name (fun Q hQ => ?_)
  refine lv_aload_n hx hb dX5_outputByIncrements_0 rfl (lv_at hl 0 rfl) ?_
  refine lv_iload_n hx hb dX5_outputByIncrements_1 rfl (lv_at hl 1 rfl) ?_
  refine hh_xcallq (w2 := [zX5 adB adA bs, zAL cO adA 3 lf]) (vx_runV (As := [.int lp]) (rest := []) ⟨hx, hb, hml, hown, hts⟩ (c_X5_loopAt_o l dC dI cI cJ cZ cO adB adA bs lf lp _ hfl hlo) (cwV 1 hts (gd_V wd_2_28 wd_2_30 wd_p_0 wd_1_1 wd_2_31) rfl rfl rfl (by decide +kernel) ⟨Nat.le_of_ble_eq_true rfl, Nat.le_of_ble_eq_true rfl⟩) (hh_pV (ci := 5) (q := (RX5, TX5, 2)) (q0 := 0) rfl rfl (gT_c _) (gT_call hG hS (va_free hD hS hA [0, 1] rfl)) hK hP hD [0, 1] rfl rfl) rfl rfl hl.1 rfl (lv_room (Nat.le_of_ble_eq_true rfl)) dX5_outputByIncrements_2 ⟨Nat.le_of_ble_eq_true rfl, Nat.le_of_ble_eq_true rfl⟩) hP hD hS hA [0, 1] [] [0, 1] rfl rfl rfl (by decide) rfl rfl rfl (fun E ce q9 H locs h1 hE hP hD hS hc1 hc2 hc3 => ?_) (fun H locs h1 hP hD hS => ?_)
  · skip
    exact hh_prop hQ (rfl) htab hlocks h1 hE hP hK hD hS hc1 hc2 hc3 (Nat.le_of_ble_eq_true rfl) (Nat.le_of_ble_eq_true rfl)
  · skip
    exact absurd h1 (by decide)
set_option maxHeartbeats 4000000 in
set_option maxRecDepth 100000 in
theorem c_X5_setpoint_o (l : Launch) (dC : Nat → ClassId) (dI : Nat → Nat → Nat) (cI cJ cZ cO : ClassId) (adB adA : Nat) (bs : Int32) (lf : Nat → Option Nat) (lp : Int32) (sz : Nat) (hfl : l.stackTraces = false) (hlo : ¬ lp < (0 : Int32) → ¬ lp < (3 : Int32)) : vx_Met l yX5_setpoint (Cond.code yX5_setpoint cX5_setpoint 2 (some .long) :: wAll) ({ frames := 7, cells := 1, slots := 6, locals := 103 }) (va_Pc [.ref adB, .int lp] (gP (dC, dI) [zX5 adB adA bs, zAL cO adA 3 lf] (tyG cI cJ cZ cO) sz (gT (va_A [zX5 adB adA bs, zAL cO adA 3 lf] sz)))) (va_Ql (fun r (_ : Unit) => 1 = 0 ∧ r = (0 : Int64)) (fun _ t => gB (dC, dI) (va_A [zX5 adB adA bs, zAL cO adA 3 lf] sz) [zX5 adB adA bs, zAL cO adA 3 lf] (tyG cI cJ cZ cO) t) (va_A [zX5 adB adA bs, zAL cO adA 3 lf] sz)) (gE (dC, dI) (va_A [zX5 adB adA bs, zAL cO adA 3 lf] sz) [zX5 adB adA bs, zAL cO adA 3 lf] (tyG cI cJ cZ cO) 1) 1 6 (va_A [zX5 adB adA bs, zAL cO adA 3 lf] sz) := by
  refine vx_ofW (cc := cX5_setpoint) (maxL := 2) (ret := (some .long)) (by decide) rfl ?_
  intro p e s m args below meth c s₁ B hml htab hv
  obtain ⟨rfl, hsz, hP, hK, hD0, hG⟩ := hv
  have hx := B.exec
  have hb := B.bytes
  have hr := B.returns
  have hts := ht_of B.pre
  have hown : s.vm.findClass RX5 = some m.cls := findClass_of_methodNamed B.named
  have hlocks := B.notSynchronized
  subst hsz
  have hD := hD0.self (sz := s.heap.size)
  generalize hAe : va_A [zX5 adB adA bs, zAL cO adA 3 lf] s.heap.size = A at hD hG ⊢
  have hA : ∀ q : Nat, s.heap.size ≤ q → A q := fun q h => by rw [← hAe]; exact Or.inr h
  have hS : va_S A s.heap s.heap [] := va_S.rf
  have hP : va_P (dC, dI) vwCl [zX5 adB adA bs, zAL cO adA 3 lf] s.heap := hP
  have hl := lv_entry ([.ref adB, .int lp]) (n := 2) (Nat.le_of_ble_eq_true rfl)
  rw [lg_entry_eq]
  generalize (lg_sl ([.ref adB, .int lp]) ++ List.replicate (2 - (lg_sl ([.ref adB, .int lp])).length) Slot.unset).toArray = ls at hl ⊢
  have hl : lv_has ls 2 [(0, .ref adB), (1, .int lp)] := hl
  refine hh_name (fun Q hQ => ?_)
  refine lv_aload_n hx hb dX5_setpoint_0 rfl (lv_at hl 0 rfl) ?_
  refine lv_iload_n hx hb dX5_setpoint_1 rfl (lv_at hl 1 rfl) ?_
  refine hh_xcallq (w2 := [zX5 adB adA bs, zAL cO adA 3 lf]) (vx_runV (As := [.int lp]) (rest := []) ⟨hx, hb, hml, hown, hts⟩ (c_X5_loopAt_o l dC dI cI cJ cZ cO adB adA bs lf lp _ hfl hlo) (cwV 1 hts (gd_V wd_2_28 wd_2_30 wd_p_0 wd_1_1 wd_2_31) rfl rfl rfl (by decide +kernel) ⟨Nat.le_of_ble_eq_true rfl, Nat.le_of_ble_eq_true rfl⟩) (hh_pV (ci := 5) (q := (RX5, TX5, 2)) (q0 := 0) rfl rfl (gT_c _) (gT_call hG hS (va_free hD hS hA [0, 1] rfl)) hK hP hD [0, 1] rfl rfl) rfl rfl hl.1 rfl (lv_room (Nat.le_of_ble_eq_true rfl)) dX5_setpoint_2 ⟨Nat.le_of_ble_eq_true rfl, Nat.le_of_ble_eq_true rfl⟩) hP hD hS hA [0, 1] [] [0, 1] rfl rfl rfl (by decide) rfl rfl rfl (fun E ce q9 H locs h1 hE hP hD hS hc1 hc2 hc3 => ?_) (fun H locs h1 hP hD hS => ?_)
  · skip
    exact hh_prop hQ (rfl) htab hlocks h1 hE hP hK hD hS hc1 hc2 hc3 (Nat.le_of_ble_eq_true rfl) (Nat.le_of_ble_eq_true rfl)
  · skip
    exact absurd h1 (by decide)
set_option maxHeartbeats 4000000 in
set_option maxRecDepth 100000 in
theorem c_X5_integral_o (l : Launch) (dC : Nat → ClassId) (dI : Nat → Nat → Nat) (cI cJ cZ cO : ClassId) (adB adA : Nat) (bs : Int32) (lf : Nat → Option Nat) (lp : Int32) (sz : Nat) (hfl : l.stackTraces = false) (hlo : ¬ lp < (0 : Int32) → ¬ lp < (3 : Int32)) : vx_Met l yX5_integral (Cond.code yX5_integral cX5_integral 2 (some .long) :: wAll) ({ frames := 7, cells := 1, slots := 6, locals := 103 }) (va_Pc [.ref adB, .int lp] (gP (dC, dI) [zX5 adB adA bs, zAL cO adA 3 lf] (tyG cI cJ cZ cO) sz (gT (va_A [zX5 adB adA bs, zAL cO adA 3 lf] sz)))) (va_Ql (fun r (_ : Unit) => 1 = 0 ∧ r = (0 : Int64)) (fun _ t => gB (dC, dI) (va_A [zX5 adB adA bs, zAL cO adA 3 lf] sz) [zX5 adB adA bs, zAL cO adA 3 lf] (tyG cI cJ cZ cO) t) (va_A [zX5 adB adA bs, zAL cO adA 3 lf] sz)) (gE (dC, dI) (va_A [zX5 adB adA bs, zAL cO adA 3 lf] sz) [zX5 adB adA bs, zAL cO adA 3 lf] (tyG cI cJ cZ cO) 1) 1 6 (va_A [zX5 adB adA bs, zAL cO adA 3 lf] sz) := by
  refine vx_ofW (cc := cX5_integral) (maxL := 2) (ret := (some .long)) (by decide) rfl ?_
  intro p e s m args below meth c s₁ B hml htab hv
  obtain ⟨rfl, hsz, hP, hK, hD0, hG⟩ := hv
  have hx := B.exec
  have hb := B.bytes
  have hr := B.returns
  have hts := ht_of B.pre
  have hown : s.vm.findClass RX5 = some m.cls := findClass_of_methodNamed B.named
  have hlocks := B.notSynchronized
  subst hsz
  have hD := hD0.self (sz := s.heap.size)
  generalize hAe : va_A [zX5 adB adA bs, zAL cO adA 3 lf] s.heap.size = A at hD hG ⊢
  have hA : ∀ q : Nat, s.heap.size ≤ q → A q := fun q h => by rw [← hAe]; exact Or.inr h
  have hS : va_S A s.heap s.heap [] := va_S.rf
  have hP : va_P (dC, dI) vwCl [zX5 adB adA bs, zAL cO adA 3 lf] s.heap := hP
  have hl := lv_entry ([.ref adB, .int lp]) (n := 2) (Nat.le_of_ble_eq_true rfl)
  rw [lg_entry_eq]
  generalize (lg_sl ([.ref adB, .int lp]) ++ List.replicate (2 - (lg_sl ([.ref adB, .int lp])).length) Slot.unset).toArray = ls at hl ⊢
  have hl : lv_has ls 2 [(0, .ref adB), (1, .int lp)] := hl
  refine hh_name (fun Q hQ => ?_)
  refine lv_aload_n hx hb dX5_integral_0 rfl (lv_at hl 0 rfl) ?_
  refine lv_iload_n hx hb dX5_integral_1 rfl (lv_at hl 1 rfl) ?_
  refine hh_xcallq (w2 := [zX5 adB adA bs, zAL cO adA 3 lf]) (vx_runV (As := [.int lp]) (rest := []) ⟨hx, hb, hml, hown, hts⟩ (c_X5_loopAt_o l dC dI cI cJ cZ cO adB adA bs lf lp _ hfl hlo) (cwV 1 hts (gd_V wd_2_28 wd_2_30 wd_p_0 wd_1_1 wd_2_31) rfl rfl rfl (by decide +kernel) ⟨Nat.le_of_ble_eq_true rfl, Nat.le_of_ble_eq_true rfl⟩) (hh_pV (ci := 5) (q := (RX5, TX5, 2)) (q0 := 0) rfl rfl (gT_c _) (gT_call hG hS (va_free hD hS hA [0, 1] rfl)) hK hP hD [0, 1] rfl rfl) rfl rfl hl.1 rfl (lv_room (Nat.le_of_ble_eq_true rfl)) dX5_integral_2 ⟨Nat.le_of_ble_eq_true rfl, Nat.le_of_ble_eq_true rfl⟩) hP hD hS hA [0, 1] [] [0, 1] rfl rfl rfl (by decide) rfl rfl rfl (fun E ce q9 H locs h1 hE hP hD hS hc1 hc2 hc3 => ?_) (fun H locs h1 hP hD hS => ?_)
  · skip
    exact hh_prop hQ (rfl) htab hlocks h1 hE hP hK hD hS hc1 hc2 hc3 (Nat.le_of_ble_eq_true rfl) (Nat.le_of_ble_eq_true rfl)
  · skip
    exact absurd h1 (by decide)
set_option maxHeartbeats 4000000 in
set_option maxRecDepth 100000 in
theorem c_X5_gain_o (l : Launch) (dC : Nat → ClassId) (dI : Nat → Nat → Nat) (cI cJ cZ cO : ClassId) (adB adA : Nat) (bs : Int32) (lf : Nat → Option Nat) (lp wh : Int32) (sz : Nat) (hfl : l.stackTraces = false) (hlo : ¬ lp < (0 : Int32) → ¬ lp < (3 : Int32)) : vx_Met l yX5_gain (Cond.code yX5_gain cX5_gain 4 (some .int) :: wAll) ({ frames := 7, cells := 1, slots := 6, locals := 103 }) (va_Pc [.ref adB, .int lp, .int wh] (gP (dC, dI) [zX5 adB adA bs, zAL cO adA 3 lf] (tyG cI cJ cZ cO) sz (gT (va_A [zX5 adB adA bs, zAL cO adA 3 lf] sz)))) (va_Qi (fun r (_ : Unit) => 1 = 0 ∧ r = (0 : Int32)) (fun _ t => gB (dC, dI) (va_A [zX5 adB adA bs, zAL cO adA 3 lf] sz) [zX5 adB adA bs, zAL cO adA 3 lf] (tyG cI cJ cZ cO) t) (va_A [zX5 adB adA bs, zAL cO adA 3 lf] sz)) (gE (dC, dI) (va_A [zX5 adB adA bs, zAL cO adA 3 lf] sz) [zX5 adB adA bs, zAL cO adA 3 lf] (tyG cI cJ cZ cO) 1) 1 6 (va_A [zX5 adB adA bs, zAL cO adA 3 lf] sz) := by
  refine vx_ofW (cc := cX5_gain) (maxL := 4) (ret := (some .int)) (by decide) rfl ?_
  intro p e s m args below meth c s₁ B hml htab hv
  obtain ⟨rfl, hsz, hP, hK, hD0, hG⟩ := hv
  have hx := B.exec
  have hb := B.bytes
  have hr := B.returns
  have hts := ht_of B.pre
  have hown : s.vm.findClass RX5 = some m.cls := findClass_of_methodNamed B.named
  have hlocks := B.notSynchronized
  subst hsz
  have hD := hD0.self (sz := s.heap.size)
  generalize hAe : va_A [zX5 adB adA bs, zAL cO adA 3 lf] s.heap.size = A at hD hG ⊢
  have hA : ∀ q : Nat, s.heap.size ≤ q → A q := fun q h => by rw [← hAe]; exact Or.inr h
  have hS : va_S A s.heap s.heap [] := va_S.rf
  have hP : va_P (dC, dI) vwCl [zX5 adB adA bs, zAL cO adA 3 lf] s.heap := hP
  have hl := lv_entry ([.ref adB, .int lp, .int wh]) (n := 4) (Nat.le_of_ble_eq_true rfl)
  rw [lg_entry_eq]
  generalize (lg_sl ([.ref adB, .int lp, .int wh]) ++ List.replicate (4 - (lg_sl ([.ref adB, .int lp, .int wh])).length) Slot.unset).toArray = ls at hl ⊢
  have hl : lv_has ls 4 [(0, .ref adB), (1, .int lp), (2, .int wh)] := hl
  refine hh_name (fun Q hQ => ?_)
  refine lv_aload_n hx hb dX5_gain_0 rfl (lv_at hl 0 rfl) ?_
  refine lv_iload_n hx hb dX5_gain_1 rfl (lv_at hl 1 rfl) ?_
  refine hh_xcallq (w2 := [zX5 adB adA bs, zAL cO adA 3 lf]) (vx_runV (As := [.int lp]) (rest := []) ⟨hx, hb, hml, hown, hts⟩ (c_X5_loopAt_o l dC dI cI cJ cZ cO adB adA bs lf lp _ hfl hlo) (cwV 1 hts (gd_V wd_2_28 wd_2_30 wd_p_0 wd_1_1 wd_2_31) rfl rfl rfl (by decide +kernel) ⟨Nat.le_of_ble_eq_true rfl, Nat.le_of_ble_eq_true rfl⟩) (hh_pV (ci := 5) (q := (RX5, TX5, 2)) (q0 := 0) rfl rfl (gT_c _) (gT_call hG hS (va_free hD hS hA [0, 1] rfl)) hK hP hD [0, 1] rfl rfl) rfl rfl hl.1 rfl (lv_room (Nat.le_of_ble_eq_true rfl)) dX5_gain_2 ⟨Nat.le_of_ble_eq_true rfl, Nat.le_of_ble_eq_true rfl⟩) hP hD hS hA [0, 1] [] [0, 1] rfl rfl rfl (by decide) rfl rfl rfl (fun E ce q9 H locs h1 hE hP hD hS hc1 hc2 hc3 => ?_) (fun H locs h1 hP hD hS => ?_)
  · skip
    exact hh_prop hQ (rfl) htab hlocks h1 hE hP hK hD hS hc1 hc2 hc3 (Nat.le_of_ble_eq_true rfl) (Nat.le_of_ble_eq_true rfl)
  · skip
    exact absurd h1 (by decide)
set_option maxHeartbeats 4000000 in
set_option maxRecDepth 100000 in
theorem c_X5_mode_o (l : Launch) (dC : Nat → ClassId) (dI : Nat → Nat → Nat) (cI cJ cZ cO : ClassId) (adB adA : Nat) (bs : Int32) (lf : Nat → Option Nat) (lp : Int32) (sz : Nat) (hfl : l.stackTraces = false) (hlo : ¬ lp < (0 : Int32) → ¬ lp < (3 : Int32)) : vx_Met l yX5_mode (Cond.code yX5_mode cX5_mode 2 (some .int) :: wAll) ({ frames := 7, cells := 1, slots := 6, locals := 103 }) (va_Pc [.ref adB, .int lp] (gP (dC, dI) [zX5 adB adA bs, zAL cO adA 3 lf] (tyG cI cJ cZ cO) sz (gT (va_A [zX5 adB adA bs, zAL cO adA 3 lf] sz)))) (va_Qi (fun r (_ : Unit) => 1 = 0 ∧ r = (0 : Int32)) (fun _ t => gB (dC, dI) (va_A [zX5 adB adA bs, zAL cO adA 3 lf] sz) [zX5 adB adA bs, zAL cO adA 3 lf] (tyG cI cJ cZ cO) t) (va_A [zX5 adB adA bs, zAL cO adA 3 lf] sz)) (gE (dC, dI) (va_A [zX5 adB adA bs, zAL cO adA 3 lf] sz) [zX5 adB adA bs, zAL cO adA 3 lf] (tyG cI cJ cZ cO) 1) 1 6 (va_A [zX5 adB adA bs, zAL cO adA 3 lf] sz) := by
  refine vx_ofW (cc := cX5_mode) (maxL := 2) (ret := (some .int)) (by decide) rfl ?_
  intro p e s m args below meth c s₁ B hml htab hv
  obtain ⟨rfl, hsz, hP, hK, hD0, hG⟩ := hv
  have hx := B.exec
  have hb := B.bytes
  have hr := B.returns
  have hts := ht_of B.pre
  have hown : s.vm.findClass RX5 = some m.cls := findClass_of_methodNamed B.named
  have hlocks := B.notSynchronized
  subst hsz
  have hD := hD0.self (sz := s.heap.size)
  generalize hAe : va_A [zX5 adB adA bs, zAL cO adA 3 lf] s.heap.size = A at hD hG ⊢
  have hA : ∀ q : Nat, s.heap.size ≤ q → A q := fun q h => by rw [← hAe]; exact Or.inr h
  have hS : va_S A s.heap s.heap [] := va_S.rf
  have hP : va_P (dC, dI) vwCl [zX5 adB adA bs, zAL cO adA 3 lf] s.heap := hP
  have hl := lv_entry ([.ref adB, .int lp]) (n := 2) (Nat.le_of_ble_eq_true rfl)
  rw [lg_entry_eq]
  generalize (lg_sl ([.ref adB, .int lp]) ++ List.replicate (2 - (lg_sl ([.ref adB, .int lp])).length) Slot.unset).toArray = ls at hl ⊢
  have hl : lv_has ls 2 [(0, .ref adB), (1, .int lp)] := hl
  refine hh_name (fun Q hQ => ?_)
  refine lv_aload_n hx hb dX5_mode_0 rfl (lv_at hl 0 rfl) ?_
  refine lv_iload_n hx hb dX5_mode_1 rfl (lv_at hl 1 rfl) ?_
  refine hh_xcallq (w2 := [zX5 adB adA bs, zAL cO adA 3 lf]) (vx_runV (As := [.int lp]) (rest := []) ⟨hx, hb, hml, hown, hts⟩ (c_X5_loopAt_o l dC dI cI cJ cZ cO adB adA bs lf lp _ hfl hlo) (cwV 1 hts (gd_V wd_2_28 wd_2_30 wd_p_0 wd_1_1 wd_2_31) rfl rfl rfl (by decide +kernel) ⟨Nat.le_of_ble_eq_true rfl, Nat.le_of_ble_eq_true rfl⟩) (hh_pV (ci := 5) (q := (RX5, TX5, 2)) (q0 := 0) rfl rfl (gT_c _) (gT_call hG hS (va_free hD hS hA [0, 1] rfl)) hK hP hD [0, 1] rfl rfl) rfl rfl hl.1 rfl (lv_room (Nat.le_of_ble_eq_true rfl)) dX5_mode_2 ⟨Nat.le_of_ble_eq_true rfl, Nat.le_of_ble_eq_true rfl⟩) hP hD hS hA [0, 1] [] [0, 1] rfl rfl rfl (by decide) rfl rfl rfl (fun E ce q9 H locs h1 hE hP hD hS hc1 hc2 hc3 => ?_) (fun H locs h1 hP hD hS => ?_)
  · skip
    exact hh_prop hQ (rfl) htab hlocks h1 hE hP hK hD hS hc1 hc2 hc3 (Nat.le_of_ble_eq_true rfl) (Nat.le_of_ble_eq_true rfl)
  · skip
    exact absurd h1 (by decide)
set_option maxHeartbeats 4000000 in
set_option maxRecDepth 100000 in
theorem c_X5_wasStarved_o (l : Launch) (dC : Nat → ClassId) (dI : Nat → Nat → Nat) (cI cJ cZ cO : ClassId) (adB adA : Nat) (bs : Int32) (lf : Nat → Option Nat) (lp : Int32) (sz : Nat) (hfl : l.stackTraces = false) (hlo : ¬ lp < (0 : Int32) → ¬ lp < (3 : Int32)) : vx_Met l yX5_wasStarved (Cond.code yX5_wasStarved cX5_wasStarved 2 (some .boolean) :: wAll) ({ frames := 7, cells := 1, slots := 6, locals := 103 }) (va_Pc [.ref adB, .int lp] (gP (dC, dI) [zX5 adB adA bs, zAL cO adA 3 lf] (tyG cI cJ cZ cO) sz (gT (va_A [zX5 adB adA bs, zAL cO adA 3 lf] sz)))) (va_Qi (fun r (_ : Unit) => 1 = 0 ∧ r = (0 : Int32)) (fun _ t => gB (dC, dI) (va_A [zX5 adB adA bs, zAL cO adA 3 lf] sz) [zX5 adB adA bs, zAL cO adA 3 lf] (tyG cI cJ cZ cO) t) (va_A [zX5 adB adA bs, zAL cO adA 3 lf] sz)) (gE (dC, dI) (va_A [zX5 adB adA bs, zAL cO adA 3 lf] sz) [zX5 adB adA bs, zAL cO adA 3 lf] (tyG cI cJ cZ cO) 1) 1 6 (va_A [zX5 adB adA bs, zAL cO adA 3 lf] sz) := by
  refine vx_ofW (cc := cX5_wasStarved) (maxL := 2) (ret := (some .boolean)) (by decide) rfl ?_
  intro p e s m args below meth c s₁ B hml htab hv
  obtain ⟨rfl, hsz, hP, hK, hD0, hG⟩ := hv
  have hx := B.exec
  have hb := B.bytes
  have hr := B.returns
  have hts := ht_of B.pre
  have hown : s.vm.findClass RX5 = some m.cls := findClass_of_methodNamed B.named
  have hlocks := B.notSynchronized
  subst hsz
  have hD := hD0.self (sz := s.heap.size)
  generalize hAe : va_A [zX5 adB adA bs, zAL cO adA 3 lf] s.heap.size = A at hD hG ⊢
  have hA : ∀ q : Nat, s.heap.size ≤ q → A q := fun q h => by rw [← hAe]; exact Or.inr h
  have hS : va_S A s.heap s.heap [] := va_S.rf
  have hP : va_P (dC, dI) vwCl [zX5 adB adA bs, zAL cO adA 3 lf] s.heap := hP
  have hl := lv_entry ([.ref adB, .int lp]) (n := 2) (Nat.le_of_ble_eq_true rfl)
  rw [lg_entry_eq]
  generalize (lg_sl ([.ref adB, .int lp]) ++ List.replicate (2 - (lg_sl ([.ref adB, .int lp])).length) Slot.unset).toArray = ls at hl ⊢
  have hl : lv_has ls 2 [(0, .ref adB), (1, .int lp)] := hl
  refine hh_name (fun Q hQ => ?_)
  refine lv_aload_n hx hb dX5_wasStarved_0 rfl (lv_at hl 0 rfl) ?_
  refine lv_iload_n hx hb dX5_wasStarved_1 rfl (lv_at hl 1 rfl) ?_
  refine hh_xcallq (w2 := [zX5 adB adA bs, zAL cO adA 3 lf]) (vx_runV (As := [.int lp]) (rest := []) ⟨hx, hb, hml, hown, hts⟩ (c_X5_loopAt_o l dC dI cI cJ cZ cO adB adA bs lf lp _ hfl hlo) (cwV 1 hts (gd_V wd_2_28 wd_2_30 wd_p_0 wd_1_1 wd_2_31) rfl rfl rfl (by decide +kernel) ⟨Nat.le_of_ble_eq_true rfl, Nat.le_of_ble_eq_true rfl⟩) (hh_pV (ci := 5) (q := (RX5, TX5, 2)) (q0 := 0) rfl rfl (gT_c _) (gT_call hG hS (va_free hD hS hA [0, 1] rfl)) hK hP hD [0, 1] rfl rfl) rfl rfl hl.1 rfl (lv_room (Nat.le_of_ble_eq_true rfl)) dX5_wasStarved_2 ⟨Nat.le_of_ble_eq_true rfl, Nat.le_of_ble_eq_true rfl⟩) hP hD hS hA [0, 1] [] [0, 1] rfl rfl rfl (by decide) rfl rfl rfl (fun E ce q9 H locs h1 hE hP hD hS hc1 hc2 hc3 => ?_) (fun H locs h1 hP hD hS => ?_)
  · skip
    exact hh_prop hQ (rfl) htab hlocks h1 hE hP hK hD hS hc1 hc2 hc3 (Nat.le_of_ble_eq_true rfl) (Nat.le_of_ble_eq_true rfl)
  · skip
    exact absurd h1 (by decide)
set_option maxHeartbeats 4000000 in
set_option maxRecDepth 100000 in
theorem c_X5_held_o (l : Launch) (dC : Nat → ClassId) (dI : Nat → Nat → Nat) (cI cJ cZ cO : ClassId) (adB adA : Nat) (bs : Int32) (lf : Nat → Option Nat) (lp : Int32) (sz : Nat) (hfl : l.stackTraces = false) (hlo : ¬ lp < (0 : Int32) → ¬ lp < (3 : Int32)) : vx_Met l yX5_held (Cond.code yX5_held cX5_held 2 (some .int) :: wAll) ({ frames := 7, cells := 1, slots := 6, locals := 103 }) (va_Pc [.ref adB, .int lp] (gP (dC, dI) [zX5 adB adA bs, zAL cO adA 3 lf] (tyG cI cJ cZ cO) sz (gT (va_A [zX5 adB adA bs, zAL cO adA 3 lf] sz)))) (va_Qi (fun r (_ : Unit) => 1 = 0 ∧ r = (0 : Int32)) (fun _ t => gB (dC, dI) (va_A [zX5 adB adA bs, zAL cO adA 3 lf] sz) [zX5 adB adA bs, zAL cO adA 3 lf] (tyG cI cJ cZ cO) t) (va_A [zX5 adB adA bs, zAL cO adA 3 lf] sz)) (gE (dC, dI) (va_A [zX5 adB adA bs, zAL cO adA 3 lf] sz) [zX5 adB adA bs, zAL cO adA 3 lf] (tyG cI cJ cZ cO) 1) 1 6 (va_A [zX5 adB adA bs, zAL cO adA 3 lf] sz) := by
  refine vx_ofW (cc := cX5_held) (maxL := 2) (ret := (some .int)) (by decide) rfl ?_
  intro p e s m args below meth c s₁ B hml htab hv
  obtain ⟨rfl, hsz, hP, hK, hD0, hG⟩ := hv
  have hx := B.exec
  have hb := B.bytes
  have hr := B.returns
  have hts := ht_of B.pre
  have hown : s.vm.findClass RX5 = some m.cls := findClass_of_methodNamed B.named
  have hlocks := B.notSynchronized
  subst hsz
  have hD := hD0.self (sz := s.heap.size)
  generalize hAe : va_A [zX5 adB adA bs, zAL cO adA 3 lf] s.heap.size = A at hD hG ⊢
  have hA : ∀ q : Nat, s.heap.size ≤ q → A q := fun q h => by rw [← hAe]; exact Or.inr h
  have hS : va_S A s.heap s.heap [] := va_S.rf
  have hP : va_P (dC, dI) vwCl [zX5 adB adA bs, zAL cO adA 3 lf] s.heap := hP
  have hl := lv_entry ([.ref adB, .int lp]) (n := 2) (Nat.le_of_ble_eq_true rfl)
  rw [lg_entry_eq]
  generalize (lg_sl ([.ref adB, .int lp]) ++ List.replicate (2 - (lg_sl ([.ref adB, .int lp])).length) Slot.unset).toArray = ls at hl ⊢
  have hl : lv_has ls 2 [(0, .ref adB), (1, .int lp)] := hl
  refine hh_name (fun Q hQ => ?_)
  refine lv_aload_n hx hb dX5_held_0 rfl (lv_at hl 0 rfl) ?_
  refine lv_iload_n hx hb dX5_held_1 rfl (lv_at hl 1 rfl) ?_
  refine hh_xcallq (w2 := [zX5 adB adA bs, zAL cO adA 3 lf]) (vx_runV (As := [.int lp]) (rest := []) ⟨hx, hb, hml, hown, hts⟩ (c_X5_loopAt_o l dC dI cI cJ cZ cO adB adA bs lf lp _ hfl hlo) (cwV 1 hts (gd_V wd_2_28 wd_2_30 wd_p_0 wd_1_1 wd_2_31) rfl rfl rfl (by decide +kernel) ⟨Nat.le_of_ble_eq_true rfl, Nat.le_of_ble_eq_true rfl⟩) (hh_pV (ci := 5) (q := (RX5, TX5, 2)) (q0 := 0) rfl rfl (gT_c _) (gT_call hG hS (va_free hD hS hA [0, 1] rfl)) hK hP hD [0, 1] rfl rfl) rfl rfl hl.1 rfl (lv_room (Nat.le_of_ble_eq_true rfl)) dX5_held_2 ⟨Nat.le_of_ble_eq_true rfl, Nat.le_of_ble_eq_true rfl⟩) hP hD hS hA [0, 1] [] [0, 1] rfl rfl rfl (by decide) rfl rfl rfl (fun E ce q9 H locs h1 hE hP hD hS hc1 hc2 hc3 => ?_) (fun H locs h1 hP hD hS => ?_)
  · skip
    exact hh_prop hQ (rfl) htab hlocks h1 hE hP hK hD hS hc1 hc2 hc3 (Nat.le_of_ble_eq_true rfl) (Nat.le_of_ble_eq_true rfl)
  · skip
    exact absurd h1 (by decide)
set_option maxHeartbeats 4000000 in
set_option maxRecDepth 100000 in
theorem c_X5_startRelay_o (l : Launch) (dC : Nat → ClassId) (dI : Nat → Nat → Nat) (cI cJ cZ cO : ClassId) (adB adA : Nat) (bs : Int32) (lf : Nat → Option Nat) (lp hev bav : Int32) (sz : Nat) (hfl : l.stackTraces = false) (hlo : ¬ lp < (0 : Int32) → ¬ lp < (3 : Int32)) : vx_Met l yX5_startRelay (Cond.code yX5_startRelay cX5_startRelay 5 none :: wAll) ({ frames := 7, cells := 1, slots := 6, locals := 103 }) (va_Pc [.ref adB, .int lp, .int hev, .int bav] (gP (dC, dI) [zX5 adB adA bs, zAL cO adA 3 lf] (tyG cI cJ cZ cO) sz (gT (va_A [zX5 adB adA bs, zAL cO adA 3 lf] sz)))) (va_Qv (fun (_ : Unit) => 1 = 0) (fun _ t => gB (dC, dI) (va_A [zX5 adB adA bs, zAL cO adA 3 lf] sz) [zX5 adB adA bs, zAL cO adA 3 lf] (tyG cI cJ cZ cO) t) (va_A [zX5 adB adA bs, zAL cO adA 3 lf] sz)) (gE (dC, dI) (va_A [zX5 adB adA bs, zAL cO adA 3 lf] sz) [zX5 adB adA bs, zAL cO adA 3 lf] (tyG cI cJ cZ cO) 1) 1 6 (va_A [zX5 adB adA bs, zAL cO adA 3 lf] sz) := by
  refine vx_ofW (cc := cX5_startRelay) (maxL := 5) (ret := none) (by decide) rfl ?_
  intro p e s m args below meth c s₁ B hml htab hv
  obtain ⟨rfl, hsz, hP, hK, hD0, hG⟩ := hv
  have hx := B.exec
  have hb := B.bytes
  have hr := B.returns
  have hts := ht_of B.pre
  have hown : s.vm.findClass RX5 = some m.cls := findClass_of_methodNamed B.named
  have hlocks := B.notSynchronized
  subst hsz
  have hD := hD0.self (sz := s.heap.size)
  generalize hAe : va_A [zX5 adB adA bs, zAL cO adA 3 lf] s.heap.size = A at hD hG ⊢
  have hA : ∀ q : Nat, s.heap.size ≤ q → A q := fun q h => by rw [← hAe]; exact Or.inr h
  have hS : va_S A s.heap s.heap [] := va_S.rf
  have hP : va_P (dC, dI) vwCl [zX5 adB adA bs, zAL cO adA 3 lf] s.heap := hP
  have hl := lv_entry ([.ref adB, .int lp, .int hev, .int bav]) (n := 5) (Nat.le_of_ble_eq_true rfl)
  rw [lg_entry_eq]
  generalize (lg_sl ([.ref adB, .int lp, .int hev, .int bav]) ++ List.replicate (5 - (lg_sl ([.ref adB, .int lp, .int hev, .int bav])).length) Slot.unset).toArray = ls at hl ⊢
  have hl : lv_has ls 5 [(0, .ref adB), (1, .int lp), (2, .int hev), (3, .int bav)] := hl
  refine hh_name (fun Q hQ => ?_)
  refine lv_aload_n hx hb dX5_startRelay_0 rfl (lv_at hl 0 rfl) ?_
  refine lv_iload_n hx hb dX5_startRelay_1 rfl (lv_at hl 1 rfl) ?_
  refine hh_xcallq (w2 := [zX5 adB adA bs, zAL cO adA 3 lf]) (vx_runV (As := [.int lp]) (rest := []) ⟨hx, hb, hml, hown, hts⟩ (c_X5_loopAt_o l dC dI cI cJ cZ cO adB adA bs lf lp _ hfl hlo) (cwV 1 hts (gd_V wd_2_28 wd_2_30 wd_p_0 wd_1_1 wd_2_31) rfl rfl rfl (by decide +kernel) ⟨Nat.le_of_ble_eq_true rfl, Nat.le_of_ble_eq_true rfl⟩) (hh_pV (ci := 5) (q := (RX5, TX5, 2)) (q0 := 0) rfl rfl (gT_c _) (gT_call hG hS (va_free hD hS hA [0, 1] rfl)) hK hP hD [0, 1] rfl rfl) rfl rfl hl.1 rfl (lv_room (Nat.le_of_ble_eq_true rfl)) dX5_startRelay_2 ⟨Nat.le_of_ble_eq_true rfl, Nat.le_of_ble_eq_true rfl⟩) hP hD hS hA [0, 1] [] [0, 1] rfl rfl rfl (by decide) rfl rfl rfl (fun E ce q9 H locs h1 hE hP hD hS hc1 hc2 hc3 => ?_) (fun H locs h1 hP hD hS => ?_)
  · skip
    exact hh_prop hQ (rfl) htab hlocks h1 hE hP hK hD hS hc1 hc2 hc3 (Nat.le_of_ble_eq_true rfl) (Nat.le_of_ble_eq_true rfl)
  · skip
    exact absurd h1 (by decide)
set_option maxHeartbeats 4000000 in
set_option maxRecDepth 100000 in
theorem c_X5_experiment_o (l : Launch) (dC : Nat → ClassId) (dI : Nat → Nat → Nat) (cI cJ cZ cO : ClassId) (adB adA : Nat) (bs : Int32) (lf : Nat → Option Nat) (lp : Int32) (sz : Nat) (hfl : l.stackTraces = false) (hlo : ¬ lp < (0 : Int32) → ¬ lp < (3 : Int32)) : vx_Met l yX5_experiment (Cond.code yX5_experiment cX5_experiment 2 (some .int) :: wAll) ({ frames := 7, cells := 1, slots := 6, locals := 103 }) (va_Pc [.ref adB, .int lp] (gP (dC, dI) [zX5 adB adA bs, zAL cO adA 3 lf] (tyG cI cJ cZ cO) sz (gT (va_A [zX5 adB adA bs, zAL cO adA 3 lf] sz)))) (va_Qi (fun r (_ : Unit) => 1 = 0 ∧ r = (0 : Int32)) (fun _ t => gB (dC, dI) (va_A [zX5 adB adA bs, zAL cO adA 3 lf] sz) [zX5 adB adA bs, zAL cO adA 3 lf] (tyG cI cJ cZ cO) t) (va_A [zX5 adB adA bs, zAL cO adA 3 lf] sz)) (gE (dC, dI) (va_A [zX5 adB adA bs, zAL cO adA 3 lf] sz) [zX5 adB adA bs, zAL cO adA 3 lf] (tyG cI cJ cZ cO) 1) 1 6 (va_A [zX5 adB adA bs, zAL cO adA 3 lf] sz) := by
  refine vx_ofW (cc := cX5_experiment) (maxL := 2) (ret := (some .int)) (by decide) rfl ?_
  intro p e s m args below meth c s₁ B hml htab hv
  obtain ⟨rfl, hsz, hP, hK, hD0, hG⟩ := hv
  have hx := B.exec
  have hb := B.bytes
  have hr := B.returns
  have hts := ht_of B.pre
  have hown : s.vm.findClass RX5 = some m.cls := findClass_of_methodNamed B.named
  have hlocks := B.notSynchronized
  subst hsz
  have hD := hD0.self (sz := s.heap.size)
  generalize hAe : va_A [zX5 adB adA bs, zAL cO adA 3 lf] s.heap.size = A at hD hG ⊢
  have hA : ∀ q : Nat, s.heap.size ≤ q → A q := fun q h => by rw [← hAe]; exact Or.inr h
  have hS : va_S A s.heap s.heap [] := va_S.rf
  have hP : va_P (dC, dI) vwCl [zX5 adB adA bs, zAL cO adA 3 lf] s.heap := hP
  have hl := lv_entry ([.ref adB, .int lp]) (n := 2) (Nat.le_of_ble_eq_true rfl)
  rw [lg_entry_eq]
  generalize (lg_sl ([.ref adB, .int lp]) ++ List.replicate (2 - (lg_sl ([.ref adB, .int lp])).length) Slot.unset).toArray = ls at hl ⊢
  have hl : lv_has ls 2 [(0, .ref adB), (1, .int lp)] := hl
  refine hh_name (fun Q hQ => ?_)
  refine lv_aload_n hx hb dX5_experiment_0 rfl (lv_at hl 0 rfl) ?_
  refine lv_iload_n hx hb dX5_experiment_1 rfl (lv_at hl 1 rfl) ?_
  refine hh_xcallq (w2 := [zX5 adB adA bs, zAL cO adA 3 lf]) (vx_runV (As := [.int lp]) (rest := []) ⟨hx, hb, hml, hown, hts⟩ (c_X5_loopAt_o l dC dI cI cJ cZ cO adB adA bs lf lp _ hfl hlo) (cwV 1 hts (gd_V wd_2_28 wd_2_30 wd_p_0 wd_1_1 wd_2_31) rfl rfl rfl (by decide +kernel) ⟨Nat.le_of_ble_eq_true rfl, Nat.le_of_ble_eq_true rfl⟩) (hh_pV (ci := 5) (q := (RX5, TX5, 2)) (q0 := 0) rfl rfl (gT_c _) (gT_call hG hS (va_free hD hS hA [0, 1] rfl)) hK hP hD [0, 1] rfl rfl) rfl rfl hl.1 rfl (lv_room (Nat.le_of_ble_eq_true rfl)) dX5_experiment_2 ⟨Nat.le_of_ble_eq_true rfl, Nat.le_of_ble_eq_true rfl⟩) hP hD hS hA [0, 1] [] [0, 1] rfl rfl rfl (by decide) rfl rfl rfl (fun E ce q9 H locs h1 hE hP hD hS hc1 hc2 hc3 => ?_) (fun H locs h1 hP hD hS => ?_)
  · skip
    exact hh_prop hQ (rfl) htab hlocks h1 hE hP hK hD hS hc1 hc2 hc3 (Nat.le_of_ble_eq_true rfl) (Nat.le_of_ble_eq_true rfl)
  · skip
    exact absurd h1 (by decide)
set_option maxHeartbeats 4000000 in
set_option maxRecDepth 100000 in
theorem c_X5_period_o (l : Launch) (dC : Nat → ClassId) (dI : Nat → Nat → Nat) (cI cJ cZ cO : ClassId) (adB adA : Nat) (bs : Int32) (lf : Nat → Option Nat) (lp : Int32) (sz : Nat) (hfl : l.stackTraces = false) (hlo : ¬ lp < (0 : Int32) → ¬ lp < (3 : Int32)) : vx_Met l yX5_period (Cond.code yX5_period cX5_period 3 (some .int) :: wAll) ({ frames := 7, cells := 1, slots := 6, locals := 103 }) (va_Pc [.ref adB, .int lp] (gP (dC, dI) [zX5 adB adA bs, zAL cO adA 3 lf] (tyG cI cJ cZ cO) sz (gT (va_A [zX5 adB adA bs, zAL cO adA 3 lf] sz)))) (va_Qi (fun r (_ : Unit) => 1 = 0 ∧ r = (0 : Int32)) (fun _ t => gB (dC, dI) (va_A [zX5 adB adA bs, zAL cO adA 3 lf] sz) [zX5 adB adA bs, zAL cO adA 3 lf] (tyG cI cJ cZ cO) t) (va_A [zX5 adB adA bs, zAL cO adA 3 lf] sz)) (gE (dC, dI) (va_A [zX5 adB adA bs, zAL cO adA 3 lf] sz) [zX5 adB adA bs, zAL cO adA 3 lf] (tyG cI cJ cZ cO) 1) 1 6 (va_A [zX5 adB adA bs, zAL cO adA 3 lf] sz) := by
  refine vx_ofW (cc := cX5_period) (maxL := 3) (ret := (some .int)) (by decide) rfl ?_
  intro p e s m args below meth c s₁ B hml htab hv
  obtain ⟨rfl, hsz, hP, hK, hD0, hG⟩ := hv
  have hx := B.exec
  have hb := B.bytes
  have hr := B.returns
  have hts := ht_of B.pre
  have hown : s.vm.findClass RX5 = some m.cls := findClass_of_methodNamed B.named
  have hlocks := B.notSynchronized
  subst hsz
  have hD := hD0.self (sz := s.heap.size)
  generalize hAe : va_A [zX5 adB adA bs, zAL cO adA 3 lf] s.heap.size = A at hD hG ⊢
  have hA : ∀ q : Nat, s.heap.size ≤ q → A q := fun q h => by rw [← hAe]; exact Or.inr h
  have hS : va_S A s.heap s.heap [] := va_S.rf
  have hP : va_P (dC, dI) vwCl [zX5 adB adA bs, zAL cO adA 3 lf] s.heap := hP
  have hl := lv_entry ([.ref adB, .int lp]) (n := 3) (Nat.le_of_ble_eq_true rfl)
  rw [lg_entry_eq]
  generalize (lg_sl ([.ref adB, .int lp]) ++ List.replicate (3 - (lg_sl ([.ref adB, .int lp])).length) Slot.unset).toArray = ls at hl ⊢
  have hl : lv_has ls 3 [(0, .ref adB), (1, .int lp)] := hl
  refine hh_name (fun Q hQ => ?_)
  refine lv_aload_n hx hb dX5_period_0 rfl (lv_at hl 0 rfl) ?_
  refine lv_iload_n hx hb dX5_period_1 rfl (lv_at hl 1 rfl) ?_
  refine hh_xcallq (w2 := [zX5 adB adA bs, zAL cO adA 3 lf]) (vx_runV (As := [.int lp]) (rest := []) ⟨hx, hb, hml, hown, hts⟩ (c_X5_loopAt_o l dC dI cI cJ cZ cO adB adA bs lf lp _ hfl hlo) (cwV 1 hts (gd_V wd_2_28 wd_2_30 wd_p_0 wd_1_1 wd_2_31) rfl rfl rfl (by decide +kernel) ⟨Nat.le_of_ble_eq_true rfl, Nat.le_of_ble_eq_true rfl⟩) (hh_pV (ci := 5) (q := (RX5, TX5, 2)) (q0 := 0) rfl rfl (gT_c _) (gT_call hG hS (va_free hD hS hA [0, 1] rfl)) hK hP hD [0, 1] rfl rfl) rfl rfl hl.1 rfl (lv_room (Nat.le_of_ble_eq_true rfl)) dX5_period_2 ⟨Nat.le_of_ble_eq_true rfl, Nat.le_of_ble_eq_true rfl⟩) hP hD hS hA [0, 1] [] [0, 1] rfl rfl rfl (by decide) rfl rfl rfl (fun E ce q9 H locs h1 hE hP hD hS hc1 hc2 hc3 => ?_) (fun H locs h1 hP hD hS => ?_)
  · skip
    exact hh_prop hQ (rfl) htab hlocks h1 hE hP hK hD hS hc1 hc2 hc3 (Nat.le_of_ble_eq_true rfl) (Nat.le_of_ble_eq_true rfl)
  · skip
    exact absurd h1 (by decide)
set_option maxHeartbeats 4000000 in
set_option maxRecDepth 100000 in
theorem c_X5_swing_o (l : Launch) (dC : Nat → ClassId) (dI : Nat → Nat → Nat) (cI cJ cZ cO : ClassId) (adB adA : Nat) (bs : Int32) (lf : Nat → Option Nat) (lp : Int32) (sz : Nat) (hfl : l.stackTraces = false) (hlo : ¬ lp < (0 : Int32) → ¬ lp < (3 : Int32)) : vx_Met l yX5_swing (Cond.code yX5_swing cX5_swing 3 (some .long) :: wAll) ({ frames := 7, cells := 1, slots := 6, locals := 103 }) (va_Pc [.ref adB, .int lp] (gP (dC, dI) [zX5 adB adA bs, zAL cO adA 3 lf] (tyG cI cJ cZ cO) sz (gT (va_A [zX5 adB adA bs, zAL cO adA 3 lf] sz)))) (va_Ql (fun r (_ : Unit) => 1 = 0 ∧ r = (0 : Int64)) (fun _ t => gB (dC, dI) (va_A [zX5 adB adA bs, zAL cO adA 3 lf] sz) [zX5 adB adA bs, zAL cO adA 3 lf] (tyG cI cJ cZ cO) t) (va_A [zX5 adB adA bs, zAL cO adA 3 lf] sz)) (gE (dC, dI) (va_A [zX5 adB adA bs, zAL cO adA 3 lf] sz) [zX5 adB adA bs, zAL cO adA 3 lf] (tyG cI cJ cZ cO) 1) 1 6 (va_A [zX5 adB adA bs, zAL cO adA 3 lf] sz) := by
  refine vx_ofW (cc := cX5_swing) (maxL := 3) (ret := (some .long)) (by decide) rfl ?_
  intro p e s m args below meth c s₁ B hml htab hv
  obtain ⟨rfl, hsz, hP, hK, hD0, hG⟩ := hv
  have hx := B.exec
  have hb := B.bytes
  have hr := B.returns
  have hts := ht_of B.pre
  have hown : s.vm.findClass RX5 = some m.cls := findClass_of_methodNamed B.named
  have hlocks := B.notSynchronized
  subst hsz
  have hD := hD0.self (sz := s.heap.size)
  generalize hAe : va_A [zX5 adB adA bs, zAL cO adA 3 lf] s.heap.size = A at hD hG ⊢
  have hA : ∀ q : Nat, s.heap.size ≤ q → A q := fun q h => by rw [← hAe]; exact Or.inr h
  have hS : va_S A s.heap s.heap [] := va_S.rf
  have hP : va_P (dC, dI) vwCl [zX5 adB adA bs, zAL cO adA 3 lf] s.heap := hP
  have hl := lv_entry ([.ref adB, .int lp]) (n := 3) (Nat.le_of_ble_eq_true rfl)
  rw [lg_entry_eq]
  generalize (lg_sl ([.ref adB, .int lp]) ++ List.replicate (3 - (lg_sl ([.ref adB, .int lp])).length) Slot.unset).toArray = ls at hl ⊢
  have hl : lv_has ls 3 [(0, .ref adB), (1, .int lp)] := hl
  refine hh_name (fun Q hQ => ?_)
  refine lv_aload_n hx hb dX5_swing_0 rfl (lv_at hl 0 rfl) ?_
  refine lv_iload_n hx hb dX5_swing_1 rfl (lv_at hl 1 rfl) ?_
  refine hh_xcallq (w2 := [zX5 adB adA bs, zAL cO adA 3 lf]) (vx_runV (As := [.int lp]) (rest := []) ⟨hx, hb, hml, hown, hts⟩ (c_X5_loopAt_o l dC dI cI cJ cZ cO adB adA bs lf lp _ hfl hlo) (cwV 1 hts (gd_V wd_2_28 wd_2_30 wd_p_0 wd_1_1 wd_2_31) rfl rfl rfl (by decide +kernel) ⟨Nat.le_of_ble_eq_true rfl, Nat.le_of_ble_eq_true rfl⟩) (hh_pV (ci := 5) (q := (RX5, TX5, 2)) (q0 := 0) rfl rfl (gT_c _) (gT_call hG hS (va_free hD hS hA [0, 1] rfl)) hK hP hD [0, 1] rfl rfl) rfl rfl hl.1 rfl (lv_room (Nat.le_of_ble_eq_true rfl)) dX5_swing_2 ⟨Nat.le_of_ble_eq_true rfl, Nat.le_of_ble_eq_true rfl⟩) hP hD hS hA [0, 1] [] [0, 1] rfl rfl rfl (by decide) rfl rfl rfl (fun E ce q9 H locs h1 hE hP hD hS hc1 hc2 hc3 => ?_) (fun H locs h1 hP hD hS => ?_)
  · skip
    exact hh_prop hQ (rfl) htab hlocks h1 hE hP hK hD hS hc1 hc2 hc3 (Nat.le_of_ble_eq_true rfl) (Nat.le_of_ble_eq_true rfl)
  · skip
    exact absurd h1 (by decide)
set_option maxHeartbeats 4000000 in
set_option maxRecDepth 100000 in
theorem c_X5_ultimateGain_o (l : Launch) (dC : Nat → ClassId) (dI : Nat → Nat → Nat) (cI cJ cZ cO : ClassId) (adB adA : Nat) (bs : Int32) (lf : Nat → Option Nat) (lp : Int32) (sz : Nat) (hfl : l.stackTraces = false) (hlo : ¬ lp < (0 : Int32) → ¬ lp < (3 : Int32)) : vx_Met l yX5_ultimateGain (Cond.code yX5_ultimateGain cX5_ultimateGain 3 (some .int) :: wAll) ({ frames := 7, cells := 1, slots := 6, locals := 103 }) (va_Pc [.ref adB, .int lp] (gP (dC, dI) [zX5 adB adA bs, zAL cO adA 3 lf] (tyG cI cJ cZ cO) sz (gT (va_A [zX5 adB adA bs, zAL cO adA 3 lf] sz)))) (va_Qi (fun r (_ : Unit) => 1 = 0 ∧ r = (0 : Int32)) (fun _ t => gB (dC, dI) (va_A [zX5 adB adA bs, zAL cO adA 3 lf] sz) [zX5 adB adA bs, zAL cO adA 3 lf] (tyG cI cJ cZ cO) t) (va_A [zX5 adB adA bs, zAL cO adA 3 lf] sz)) (gE (dC, dI) (va_A [zX5 adB adA bs, zAL cO adA 3 lf] sz) [zX5 adB adA bs, zAL cO adA 3 lf] (tyG cI cJ cZ cO) 1) 1 6 (va_A [zX5 adB adA bs, zAL cO adA 3 lf] sz) := by
  refine vx_ofW (cc := cX5_ultimateGain) (maxL := 3) (ret := (some .int)) (by decide) rfl ?_
  intro p e s m args below meth c s₁ B hml htab hv
  obtain ⟨rfl, hsz, hP, hK, hD0, hG⟩ := hv
  have hx := B.exec
  have hb := B.bytes
  have hr := B.returns
  have hts := ht_of B.pre
  have hown : s.vm.findClass RX5 = some m.cls := findClass_of_methodNamed B.named
  have hlocks := B.notSynchronized
  subst hsz
  have hD := hD0.self (sz := s.heap.size)
  generalize hAe : va_A [zX5 adB adA bs, zAL cO adA 3 lf] s.heap.size = A at hD hG ⊢
  have hA : ∀ q : Nat, s.heap.size ≤ q → A q := fun q h => by rw [← hAe]; exact Or.inr h
  have hS : va_S A s.heap s.heap [] := va_S.rf
  have hP : va_P (dC, dI) vwCl [zX5 adB adA bs, zAL cO adA 3 lf] s.heap := hP
  have hl := lv_entry ([.ref adB, .int lp]) (n := 3) (Nat.le_of_ble_eq_true rfl)
  rw [lg_entry_eq]
  generalize (lg_sl ([.ref adB, .int lp]) ++ List.replicate (3 - (lg_sl ([.ref adB, .int lp])).length) Slot.unset).toArray = ls at hl ⊢
  have hl : lv_has ls 3 [(0, .ref adB), (1, .int lp)] := hl
  refine hh_name (fun Q hQ => ?_)
  refine lv_aload_n hx hb dX5_ultimateGain_0 rfl (lv_at hl 0 rfl) ?_
  refine lv_iload_n hx hb dX5_ultimateGain_1 rfl (lv_at hl 1 rfl) ?_
  refine hh_xcallq (w2 := [zX5 adB adA bs, zAL cO adA 3 lf]) (vx_runV (As := [.int lp]) (rest := []) ⟨hx, hb, hml, hown, hts⟩ (c_X5_loopAt_o l dC dI cI cJ cZ cO adB adA bs lf lp _ hfl hlo) (cwV 1 hts (gd_V wd_2_28 wd_2_30 wd_p_0 wd_1_1 wd_2_31) rfl rfl rfl (by decide +kernel) ⟨Nat.le_of_ble_eq_true rfl, Nat.le_of_ble_eq_true rfl⟩) (hh_pV (ci := 5) (q := (RX5, TX5, 2)) (q0 := 0) rfl rfl (gT_c _) (gT_call hG hS (va_free hD hS hA [0, 1] rfl)) hK hP hD [0, 1] rfl rfl) rfl rfl hl.1 rfl (lv_room (Nat.le_of_ble_eq_true rfl)) dX5_ultimateGain_2 ⟨Nat.le_of_ble_eq_true rfl, Nat.le_of_ble_eq_true rfl⟩) hP hD hS hA [0, 1] [] [0, 1] rfl rfl rfl (by decide) rfl rfl rfl (fun E ce q9 H locs h1 hE hP hD hS hc1 hc2 hc3 => ?_) (fun H locs h1 hP hD hS => ?_)
  · skip
    exact hh_prop hQ (rfl) htab hlocks h1 hE hP hK hD hS hc1 hc2 hc3 (Nat.le_of_ble_eq_true rfl) (Nat.le_of_ble_eq_true rfl)
  · skip
    exact absurd h1 (by decide)
set_option maxHeartbeats 4000000 in
set_option maxRecDepth 100000 in
theorem c_X5_proposed_o (l : Launch) (dC : Nat → ClassId) (dI : Nat → Nat → Nat) (cI cJ cZ cO : ClassId) (adB adA : Nat) (bs : Int32) (lf : Nat → Option Nat) (lp ruv wh : Int32) (sz : Nat) (hfl : l.stackTraces = false) (hlo : ¬ lp < (0 : Int32) → ¬ lp < (3 : Int32)) : vx_Met l yX5_proposed (Cond.code yX5_proposed cX5_proposed 5 (some .int) :: wAll) ({ frames := 7, cells := 1, slots := 6, locals := 103 }) (va_Pc [.ref adB, .int lp, .int ruv, .int wh] (gP (dC, dI) [zX5 adB adA bs, zAL cO adA 3 lf] (tyG cI cJ cZ cO) sz (gT (va_A [zX5 adB adA bs, zAL cO adA 3 lf] sz)))) (va_Qi (fun r (_ : Unit) => 1 = 0 ∧ r = (0 : Int32)) (fun _ t => gB (dC, dI) (va_A [zX5 adB adA bs, zAL cO adA 3 lf] sz) [zX5 adB adA bs, zAL cO adA 3 lf] (tyG cI cJ cZ cO) t) (va_A [zX5 adB adA bs, zAL cO adA 3 lf] sz)) (gE (dC, dI) (va_A [zX5 adB adA bs, zAL cO adA 3 lf] sz) [zX5 adB adA bs, zAL cO adA 3 lf] (tyG cI cJ cZ cO) 1) 1 6 (va_A [zX5 adB adA bs, zAL cO adA 3 lf] sz) := by
  refine vx_ofW (cc := cX5_proposed) (maxL := 5) (ret := (some .int)) (by decide) rfl ?_
  intro p e s m args below meth c s₁ B hml htab hv
  obtain ⟨rfl, hsz, hP, hK, hD0, hG⟩ := hv
  have hx := B.exec
  have hb := B.bytes
  have hr := B.returns
  have hts := ht_of B.pre
  have hown : s.vm.findClass RX5 = some m.cls := findClass_of_methodNamed B.named
  have hlocks := B.notSynchronized
  subst hsz
  have hD := hD0.self (sz := s.heap.size)
  generalize hAe : va_A [zX5 adB adA bs, zAL cO adA 3 lf] s.heap.size = A at hD hG ⊢
  have hA : ∀ q : Nat, s.heap.size ≤ q → A q := fun q h => by rw [← hAe]; exact Or.inr h
  have hS : va_S A s.heap s.heap [] := va_S.rf
  have hP : va_P (dC, dI) vwCl [zX5 adB adA bs, zAL cO adA 3 lf] s.heap := hP
  have hl := lv_entry ([.ref adB, .int lp, .int ruv, .int wh]) (n := 5) (Nat.le_of_ble_eq_true rfl)
  rw [lg_entry_eq]
  generalize (lg_sl ([.ref adB, .int lp, .int ruv, .int wh]) ++ List.replicate (5 - (lg_sl ([.ref adB, .int lp, .int ruv, .int wh])).length) Slot.unset).toArray = ls at hl ⊢
  have hl : lv_has ls 5 [(0, .ref adB), (1, .int lp), (2, .int ruv), (3, .int wh)] := hl
  refine hh_name (fun Q hQ => ?_)
  refine lv_aload_n hx hb dX5_proposed_0 rfl (lv_at hl 0 rfl) ?_
  refine lv_iload_n hx hb dX5_proposed_1 rfl (lv_at hl 1 rfl) ?_
  refine hh_xcallq (w2 := [zX5 adB adA bs, zAL cO adA 3 lf]) (vx_runV (As := [.int lp]) (rest := []) ⟨hx, hb, hml, hown, hts⟩ (c_X5_loopAt_o l dC dI cI cJ cZ cO adB adA bs lf lp _ hfl hlo) (cwV 1 hts (gd_V wd_2_28 wd_2_30 wd_p_0 wd_1_1 wd_2_31) rfl rfl rfl (by decide +kernel) ⟨Nat.le_of_ble_eq_true rfl, Nat.le_of_ble_eq_true rfl⟩) (hh_pV (ci := 5) (q := (RX5, TX5, 2)) (q0 := 0) rfl rfl (gT_c _) (gT_call hG hS (va_free hD hS hA [0, 1] rfl)) hK hP hD [0, 1] rfl rfl) rfl rfl hl.1 rfl (lv_room (Nat.le_of_ble_eq_true rfl)) dX5_proposed_2 ⟨Nat.le_of_ble_eq_true rfl, Nat.le_of_ble_eq_true rfl⟩) hP hD hS hA [0, 1] [] [0, 1] rfl rfl rfl (by decide) rfl rfl rfl (fun E ce q9 H locs h1 hE hP hD hS hc1 hc2 hc3 => ?_) (fun H locs h1 hP hD hS => ?_)
  · skip
    exact hh_prop hQ (rfl) htab hlocks h1 hE hP hK hD hS hc1 hc2 hc3 (Nat.le_of_ble_eq_true rfl) (Nat.le_of_ble_eq_true rfl)
  · skip
    exact absurd h1 (by decide)
