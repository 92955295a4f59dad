def f_J9_floorDiv_f86c9_r (x y : Int64) : Int64 := if (0 : Int64) ≤ (x ^^^ y) then (x / y) else (if ((x / y) * y) = x then (x / y) else ((x / y) - (1 : Int64)))
set_option maxHeartbeats 4000000 in
set_option maxRecDepth 100000 in
theorem c_J9_floorDiv_f86c9 (l : Launch) (dC : Nat → ClassId) (dI : Nat → Nat → Nat) (cI cJ cZ cO : ClassId) (x y : Int64) (sz : Nat) (hy : ¬ y = 0) : Met l yJ9_floorDiv_f86c9 (Cond.code yJ9_floorDiv_f86c9 cJ9_floorDiv_f86c9 6 (some .long) :: wAll) ({ frames := 0, cells := 0, slots := 0, locals := 0 }) (va_Pc [.long x, .long y] (gP (dC, dI) [] (tyG cI cJ cZ cO) sz gU)) (va_Ql (fun r (_ : Unit) => r = (f_J9_floorDiv_f86c9_r x y)) (fun _ t => gB (dC, dI) (va_A [] sz) [] (tyG cI cJ cZ cO) t) (va_A [] sz)) 0 0 (va_A [] sz) := by
  refine hh_ofWF (cc := cJ9_floorDiv_f86c9) (maxL := 6) (ret := (some .long)) (by decide +kernel) rfl ?_
  intro p e s m args below meth c s₁ B hml hv
  obtain ⟨rfl, hsz, hP, hK, hD0, hG⟩ := hv
  have hx := B.exec
  have hb := B.bytes
  have hr := B.returns
  have hts := ht_of B.pre
  have hown : s.vm.findClass RJ9 = some m.cls := findClass_of_methodNamed B.named
  have hlocks := B.notSynchronized
  subst hsz
  have hD := hD0.self (sz := s.heap.size)
  generalize hAe : va_A [] s.heap.size = A at hD ⊢
  have hA : ∀ q : Nat, s.heap.size ≤ q → A q := fun q h => by rw [← hAe]; exact Or.inr h
  have hS : va_S A s.heap s.heap [] := va_S.rf
  have hP : va_P (dC, dI) vwCl [] s.heap := hP
  have hl := lv_entry ([.long x, .long y]) (n := 6) (Nat.le_of_ble_eq_true rfl)
  rw [lg_entry_eq]
  generalize (lg_sl ([.long x, .long y]) ++ List.replicate (6 - (lg_sl ([.long x, .long y])).length) Slot.unset).toArray = ls at hl ⊢
  have hl : lv_has ls 6 [(0, .long x), (2, .long y)] := hl
  refine hh_name (fun Q hQ => ?_)
  refine lv_lload_n hx hb dJ9_floorDiv_f86c9_0 rfl (lv_at hl 0 rfl) ?_
  refine lv_lload_n hx hb dJ9_floorDiv_f86c9_1 rfl (lv_at hl 1 rfl) ?_
  refine lv_ldiv hx hb dJ9_floorDiv_f86c9_2 hy ?_
  refine lv_lstore (lv' := [(4, .long (x / y)), (0, .long x), (2, .long y)]) hx hb dJ9_floorDiv_f86c9_3 hl (by decide) rfl (fun ls hl => ?_)
  refine lv_lload_n hx hb dJ9_floorDiv_f86c9_5 rfl (lv_at hl 1 rfl) ?_
  refine lv_lload_n hx hb dJ9_floorDiv_f86c9_6 rfl (lv_at hl 2 rfl) ?_
  refine lv_lxor hx hb dJ9_floorDiv_f86c9_7 ?_
  refine lv_lconst (v := 0) hx hb dJ9_floorDiv_f86c9_8 (by decide) ?_
  refine hh_cge (tgt := 27) hx hb dJ9_floorDiv_f86c9_9 dJ9_floorDiv_f86c9_10 (by decide) (fun h1 => ?_) (fun h1 => ?_)
  · skip
    refine lv_lload hx hb dJ9_floorDiv_f86c9_27 (lv_at hl 0 rfl) ?_
    exact hh_retl hQ ((if_pos h1).symm) hx hb hr hlocks hP hK hD hS dJ9_floorDiv_f86c9_29
  · skip
    refine lv_lload hx hb dJ9_floorDiv_f86c9_13 (lv_at hl 0 rfl) ?_
    refine lv_lload_n hx hb dJ9_floorDiv_f86c9_15 rfl (lv_at hl 2 rfl) ?_
    refine lv_lmul hx hb dJ9_floorDiv_f86c9_16 ?_
    refine lv_lload_n hx hb dJ9_floorDiv_f86c9_17 rfl (lv_at hl 1 rfl) ?_
    refine hh_ceq (tgt := 27) hx hb dJ9_floorDiv_f86c9_18 dJ9_floorDiv_f86c9_19 (by decide) (fun h2 => ?_) (fun h2 => ?_)
    · skip
      refine lv_lload hx hb dJ9_floorDiv_f86c9_27 (lv_at hl 0 rfl) ?_
      exact hh_retl hQ (((if_neg h1).trans (if_pos h2)).symm) hx hb hr hlocks hP hK hD hS dJ9_floorDiv_f86c9_29
    · skip
      refine lv_lload hx hb dJ9_floorDiv_f86c9_22 (lv_at hl 0 rfl) ?_
      refine lv_lconst (v := 1) hx hb dJ9_floorDiv_f86c9_24 (by decide) ?_
      refine lv_lsub hx hb dJ9_floorDiv_f86c9_25 ?_
      exact hh_retl hQ (((if_neg h1).trans (if_neg h2)).symm) hx hb hr hlocks hP hK hD hS dJ9_floorDiv_f86c9_26
def f_J9_floorMod_7cf53_r (mx my : Int32) : Int32 := if (0 : Int32) ≤ (mx ^^^ my) then (mx - mx / my * my) else (if (mx - mx / my * my) = (0 : Int32) then (mx - mx / my * my) else ((mx - mx / my * my) + my))
set_option maxHeartbeats 4000000 in
set_option maxRecDepth 100000 in
theorem c_J9_floorMod_7cf53 (l : Launch) (dC : Nat → ClassId) (dI : Nat → Nat → Nat) (cI cJ cZ cO : ClassId) (mx my : Int32) (sz : Nat) (hy : ¬ my = 0) : Met l yJ9_floorMod_7cf53 (Cond.code yJ9_floorMod_7cf53 cJ9_floorMod_7cf53 3 (some .int) :: wAll) ({ frames := 0, cells := 0, slots := 0, locals := 0 }) (va_Pc [.int mx, .int my] (gP (dC, dI) [] (tyG cI cJ cZ cO) sz gU)) (va_Qi (fun r (_ : Unit) => r = (f_J9_floorMod_7cf53_r mx my)) (fun _ t => gB (dC, dI) (va_A [] sz) [] (tyG cI cJ cZ cO) t) (va_A [] sz)) 0 0 (va_A [] sz) := by
  refine hh_ofWF (cc := cJ9_floorMod_7cf53) (maxL := 3) (ret := (some .int)) (by decide +kernel) rfl ?_
  intro p e s m args below meth c s₁ B hml hv
  obtain ⟨rfl, hsz, hP, hK, hD0, hG⟩ := hv
  have hx := B.exec
  have hb := B.bytes
  have hr := B.returns
  have hts := ht_of B.pre
  have hown : s.vm.findClass RJ9 = some m.cls := findClass_of_methodNamed B.named
  have hlocks := B.notSynchronized
  subst hsz
  have hD := hD0.self (sz := s.heap.size)
  generalize hAe : va_A [] s.heap.size = A at hD ⊢
  have hA : ∀ q : Nat, s.heap.size ≤ q → A q := fun q h => by rw [← hAe]; exact Or.inr h
  have hS : va_S A s.heap s.heap [] := va_S.rf
  have hP : va_P (dC, dI) vwCl [] s.heap := hP
  have hl := lv_entry ([.int mx, .int my]) (n := 3) (Nat.le_of_ble_eq_true rfl)
  rw [lg_entry_eq]
  generalize (lg_sl ([.int mx, .int my]) ++ List.replicate (3 - (lg_sl ([.int mx, .int my])).length) Slot.unset).toArray = ls at hl ⊢
  have hl : lv_has ls 3 [(0, .int mx), (1, .int my)] := hl
  refine hh_name (fun Q hQ => ?_)
  refine lv_iload_n hx hb dJ9_floorMod_7cf53_0 rfl (lv_at hl 0 rfl) ?_
  refine lv_iload_n hx hb dJ9_floorMod_7cf53_1 rfl (lv_at hl 1 rfl) ?_
  refine lv_irem hx hb dJ9_floorMod_7cf53_2 hy ?_
  refine lv_istore_n (lv' := [(2, .int (mx - mx / my * my)), (0, .int mx), (1, .int my)]) hx hb dJ9_floorMod_7cf53_3 rfl hl (by decide) rfl (fun ls hl => ?_)
  refine lv_iload_n hx hb dJ9_floorMod_7cf53_4 rfl (lv_at hl 1 rfl) ?_
  refine lv_iload_n hx hb dJ9_floorMod_7cf53_5 rfl (lv_at hl 2 rfl) ?_
  refine lv_ixor hx hb dJ9_floorMod_7cf53_6 ?_
  refine lv_if_ge (tgt := 18) hx hb dJ9_floorMod_7cf53_7 (by decide) (fun h1 => ?_) (fun h1 => ?_)
  · skip
    refine lv_iload_n hx hb dJ9_floorMod_7cf53_18 rfl (lv_at hl 0 rfl) ?_
    exact hh_reti hQ ((if_pos h1).symm) hx hb hr hlocks hP hK hD hS dJ9_floorMod_7cf53_19
  · skip
    refine lv_iload_n hx hb dJ9_floorMod_7cf53_10 rfl (lv_at hl 0 rfl) ?_
    refine lv_if_eq (tgt := 18) hx hb dJ9_floorMod_7cf53_11 (by decide) (fun h2 => ?_) (fun h2 => ?_)
    · skip
      refine lv_iload_n hx hb dJ9_floorMod_7cf53_18 rfl (lv_at hl 0 rfl) ?_
      exact hh_reti hQ (((if_neg h1).trans (if_pos h2)).symm) hx hb hr hlocks hP hK hD hS dJ9_floorMod_7cf53_19
    · skip
      refine lv_iload_n hx hb dJ9_floorMod_7cf53_14 rfl (lv_at hl 0 rfl) ?_
      refine lv_iload_n hx hb dJ9_floorMod_7cf53_15 rfl (lv_at hl 2 rfl) ?_
      refine lv_iadd hx hb dJ9_floorMod_7cf53_16 ?_
      exact hh_reti hQ (((if_neg h1).trans (if_neg h2)).symm) hx hb hr hlocks hP hK hD hS dJ9_floorMod_7cf53_17
def f_X5_hold_r (v lo hi : Int64) : Int64 := (if (if v < hi then v else hi) < lo then lo else (if v < hi then v else hi))
set_option maxHeartbeats 4000000 in
set_option maxRecDepth 100000 in
theorem c_X5_hold (l : Launch) (dC : Nat → ClassId) (dI : Nat → Nat → Nat) (cI cJ cZ cO : ClassId) (v lo hi : Int64) (sz : Nat)  : Met l yX5_hold (Cond.code yX5_hold cX5_hold 6 (some .long) :: wAll) ({ frames := 1, cells := 0, slots := 0, locals := 17 }) (va_Pc [.long v, .long lo, .long hi] (gP (dC, dI) [] (tyG cI cJ cZ cO) sz gN)) (va_Ql (fun r (_ : Unit) => r = (f_X5_hold_r v lo hi)) (fun _ t => gB (dC, dI) (va_A [] sz) [] (tyG cI cJ cZ cO) t) (va_A [] sz)) 0 0 (va_A [] sz) := by
  refine Met.ofW (cc := cX5_hold) (maxL := 6) (ret := (some .long)) (by decide) rfl ?_
  intro p e s m args below meth c s₁ B hml hv
  obtain ⟨rfl, hsz, hP, hK, hD0, hG⟩ := hv
  have hx := B.exec
  have hb := B.bytes
  have hr := B.returns
  have hts := ht_of B.pre
  have hown : s.vm.findClass RX5 = some m.cls := findClass_of_methodNamed B.named
  have hlocks := B.notSynchronized
  subst hsz
  have hD := hD0.self (sz := s.heap.size)
  generalize hAe : va_A [] s.heap.size = A at hD ⊢
  have hA : ∀ q : Nat, s.heap.size ≤ q → A q := fun q h => by rw [← hAe]; exact Or.inr h
  have hS : va_S A s.heap s.heap [] := va_S.rf
  have hP : va_P (dC, dI) vwCl [] s.heap := hP
  have hl := lv_entry ([.long v, .long lo, .long hi]) (n := 6) (Nat.le_of_ble_eq_true rfl)
  rw [lg_entry_eq]
  generalize (lg_sl ([.long v, .long lo, .long hi]) ++ List.replicate (6 - (lg_sl ([.long v, .long lo, .long hi])).length) Slot.unset).toArray = ls at hl ⊢
  have hl : lv_has ls 6 [(0, .long v), (2, .long lo), (4, .long hi)] := hl
  refine hh_name (fun Q hQ => ?_)
  refine lv_lload_n hx hb dX5_hold_0 rfl (lv_at hl 1 rfl) ?_
  refine lv_lload hx hb dX5_hold_1 (lv_at hl 2 rfl) ?_
  refine lv_lload_n hx hb dX5_hold_3 rfl (lv_at hl 0 rfl) ?_
  refine va_mmin_long hx hb (hml.trans hl.1.symm) hown (hts _ wd_3_89) (hts _ wd_3_90) (hts _ wd_1_13) (hts _ wd_3_91) (Nat.le_of_ble_eq_true rfl) (Nat.le_of_ble_eq_true rfl) (Nat.le_of_ble_eq_true rfl) (Nat.le_of_ble_eq_true rfl) dX5_hold_4 ?_
  refine va_mmax_long hx hb (hml.trans hl.1.symm) hown (hts _ wd_3_92) (hts _ wd_3_93) (hts _ wd_1_13) (hts _ wd_3_94) (Nat.le_of_ble_eq_true rfl) (Nat.le_of_ble_eq_true rfl) (Nat.le_of_ble_eq_true rfl) (Nat.le_of_ble_eq_true rfl) dX5_hold_7 ?_
  exact hh_retl hQ (rfl) hx hb hr hlocks hP hK hD hS dX5_hold_10
def f_X0_error_r (ksp pme : Int64) : Int64 := (ksp - pme)
set_option maxHeartbeats 4000000 in
set_option maxRecDepth 100000 in
theorem c_X0_error (l : Launch) (dC : Nat → ClassId) (dI : Nat → Nat → Nat) (cI cJ cZ cO : ClassId) (adc : Nat) (kp ki kd klo khi kgu ksh khe : Int32) (ksp kig ksu : Int64) (adp : Nat) (kle klr : Int64) (kgo pa1 pa2 pb pdt pld : Int32) (pme pmb : Int64) (ado : Nat) (plt : Int32) (sz : Nat)  : Met l yX0_error (Cond.code yX0_error cX0_error 1 (some .long) :: wAll) ({ frames := 0, cells := 0, slots := 0, locals := 0 }) (va_Pc [.ref adc] (gP (dC, dI) [zX0 adc kp ki kd klo khi kgu ksh khe ksp kig ksu adp kle klr kgo, zX2 adp pa1 pa2 pb pdt pld pme pmb ado plt] (tyG cI cJ cZ cO) sz gN)) (va_Ql (fun r (_ : Unit) => r = (f_X0_error_r ksp pme)) (fun _ t => gB (dC, dI) (va_A [zX0 adc kp ki kd klo khi kgu ksh khe ksp kig ksu adp kle klr kgo, zX2 adp pa1 pa2 pb pdt pld pme pmb ado plt] sz) [zX0 adc kp ki kd klo khi kgu ksh khe ksp kig ksu adp kle klr kgo, zX2 adp pa1 pa2 pb pdt pld pme pmb ado plt] (tyG cI cJ cZ cO) t) (va_A [zX0 adc kp ki kd klo khi kgu ksh khe ksp kig ksu adp kle klr kgo, zX2 adp pa1 pa2 pb pdt pld pme pmb ado plt] sz)) 0 0 (va_A [zX0 adc kp ki kd klo khi kgu ksh khe ksp kig ksu adp kle klr kgo, zX2 adp pa1 pa2 pb pdt pld pme pmb ado plt] sz) := by
  refine Met.ofW (cc := cX0_error) (maxL := 1) (ret := (some .long)) (by decide) rfl ?_
  intro p e s m args below meth c s₁ B hml hv
  obtain ⟨rfl, hsz, hP, hK, hD0, hG⟩ := hv
  have hx := B.exec
  have hb := B.bytes
  have hr := B.returns
  have hts := ht_of B.pre
  have hown : s.vm.findClass RX0 = some m.cls := findClass_of_methodNamed B.named
  have hlocks := B.notSynchronized
  subst hsz
  have hD := hD0.self (sz := s.heap.size)
  generalize hAe : va_A [zX0 adc kp ki kd klo khi kgu ksh khe ksp kig ksu adp kle klr kgo, zX2 adp pa1 pa2 pb pdt pld pme pmb ado plt] s.heap.size = A at hD ⊢
  have hA : ∀ q : Nat, s.heap.size ≤ q → A q := fun q h => by rw [← hAe]; exact Or.inr h
  have hS : va_S A s.heap s.heap [] := va_S.rf
  have hP : va_P (dC, dI) vwCl [zX0 adc kp ki kd klo khi kgu ksh khe ksp kig ksu adp kle klr kgo, zX2 adp pa1 pa2 pb pdt pld pme pmb ado plt] s.heap := hP
  have hl := lv_entry ([.ref adc]) (n := 1) (Nat.le_of_ble_eq_true rfl)
  rw [lg_entry_eq]
  generalize (lg_sl ([.ref adc]) ++ List.replicate (1 - (lg_sl ([.ref adc])).length) Slot.unset).toArray = ls at hl ⊢
  have hl : lv_has ls 1 [(0, .ref adc)] := hl
  refine hh_name (fun Q hQ => ?_)
  refine lv_aload_n hx hb dX0_error_0 rfl (lv_at hl 0 rfl) ?_
  refine va_get (D := (dC, dI)) (ci := 0) (v := .long ksp) (C := RX0) (T := TX0) (N := 15) hx hb hts inW_X0 hown hK hP 0 rfl rfl 8 (by decide) (hts _ wd_1_99) (fun _ h9 => h9) rfl dX0_error_1 ?_
  refine lv_aload_n hx hb dX0_error_4 rfl (lv_at hl 0 rfl) ?_
  refine va_get (D := (dC, dI)) (ci := 0) (v := .ref adp) (C := RX0) (T := TX0) (N := 15) hx hb hts inW_X0 hown hK hP 0 rfl rfl 11 (by decide) (hts _ wd_1_107) (fun _ h9 => h9) rfl dX0_error_5 ?_
  refine va_get (D := (dC, dI)) (ci := 2) (v := .long pme) (C := RX2) (T := TX2) (N := 9) hx hb hts inW_X2 hown hK hP 1 rfl rfl 5 (by decide) (hts _ wd_1_55) (fun _ h9 => h9) rfl dX0_error_8 ?_
  refine lv_lsub hx hb dX0_error_11 ?_
  exact hh_retl hQ (rfl) hx hb hr hlocks hP hK hD hS dX0_error_12
def f_X0_rate_r (pme pmb : Int64) : Int64 := (pmb - pme)
set_option maxHeartbeats 4000000 in
set_option maxRecDepth 100000 in
theorem c_X0_rate (l : Launch) (dC : Nat → ClassId) (dI : Nat → Nat → Nat) (cI cJ cZ cO : ClassId) (adc : Nat) (kp ki kd klo khi kgu ksh khe : Int32) (ksp kig ksu : Int64) (adp : Nat) (kle klr : Int64) (kgo pa1 pa2 pb pdt pld : Int32) (pme pmb : Int64) (ado : Nat) (plt : Int32) (sz : Nat)  : Met l yX0_rate (Cond.code yX0_rate cX0_rate 1 (some .long) :: wAll) ({ frames := 0, cells := 0, slots := 0, locals := 0 }) (va_Pc [.ref adc] (gP (dC, dI) [zX0 adc kp ki kd klo khi kgu ksh khe ksp kig ksu adp kle klr kgo, zX2 adp pa1 pa2 pb pdt pld pme pmb ado plt] (tyG cI cJ cZ cO) sz gN)) (va_Ql (fun r (_ : Unit) => r = (f_X0_rate_r pme pmb)) (fun _ t => gB (dC, dI) (va_A [zX0 adc kp ki kd klo khi kgu ksh khe ksp kig ksu adp kle klr kgo, zX2 adp pa1 pa2 pb pdt pld pme pmb ado plt] sz) [zX0 adc kp ki kd klo khi kgu ksh khe ksp kig ksu adp kle klr kgo, zX2 adp pa1 pa2 pb pdt pld pme pmb ado plt] (tyG cI cJ cZ cO) t) (va_A [zX0 adc kp ki kd klo khi kgu ksh khe ksp kig ksu adp kle klr kgo, zX2 adp pa1 pa2 pb pdt pld pme pmb ado plt] sz)) 0 0 (va_A [zX0 adc kp ki kd klo khi kgu ksh khe ksp kig ksu adp kle klr kgo, zX2 adp pa1 pa2 pb pdt pld pme pmb ado plt] sz) := by
  refine Met.ofW (cc := cX0_rate) (maxL := 1) (ret := (some .long)) (by decide) rfl ?_
  intro p e s m args below meth c s₁ B hml hv
  obtain ⟨rfl, hsz, hP, hK, hD0, hG⟩ := hv
  have hx := B.exec
  have hb := B.bytes
  have hr := B.returns
  have hts := ht_of B.pre
  have hown : s.vm.findClass RX0 = some m.cls := findClass_of_methodNamed B.named
  have hlocks := B.notSynchronized
  subst hsz
  have hD := hD0.self (sz := s.heap.size)
  generalize hAe : va_A [zX0 adc kp ki kd klo khi kgu ksh khe ksp kig ksu adp kle klr kgo, zX2 adp pa1 pa2 pb pdt pld pme pmb ado plt] s.heap.size = A at hD ⊢
  have hA : ∀ q : Nat, s.heap.size ≤ q → A q := fun q h => by rw [← hAe]; exact Or.inr h
  have hS : va_S A s.heap s.heap [] := va_S.rf
  have hP : va_P (dC, dI) vwCl [zX0 adc kp ki kd klo khi kgu ksh khe ksp kig ksu adp kle klr kgo, zX2 adp pa1 pa2 pb pdt pld pme pmb ado plt] s.heap := hP
  have hl := lv_entry ([.ref adc]) (n := 1) (Nat.le_of_ble_eq_true rfl)
  rw [lg_entry_eq]
  generalize (lg_sl ([.ref adc]) ++ List.replicate (1 - (lg_sl ([.ref adc])).length) Slot.unset).toArray = ls at hl ⊢
  have hl : lv_has ls 1 [(0, .ref adc)] := hl
  refine hh_name (fun Q hQ => ?_)
  refine lv_aload_n hx hb dX0_rate_0 rfl (lv_at hl 0 rfl) ?_
  refine va_get (D := (dC, dI)) (ci := 0) (v := .ref adp) (C := RX0) (T := TX0) (N := 15) hx hb hts inW_X0 hown hK hP 0 rfl rfl 11 (by decide) (hts _ wd_1_107) (fun _ h9 => h9) rfl dX0_rate_1 ?_
  refine va_get (D := (dC, dI)) (ci := 2) (v := .long pmb) (C := RX2) (T := TX2) (N := 9) hx hb hts inW_X2 hown hK hP 1 rfl rfl 6 (by decide) (hts _ wd_1_60) (fun _ h9 => h9) rfl dX0_rate_4 ?_
  refine lv_aload_n hx hb dX0_rate_7 rfl (lv_at hl 0 rfl) ?_
  refine va_get (D := (dC, dI)) (ci := 0) (v := .ref adp) (C := RX0) (T := TX0) (N := 15) hx hb hts inW_X0 hown hK hP 0 rfl rfl 11 (by decide) (hts _ wd_1_107) (fun _ h9 => h9) rfl dX0_rate_8 ?_
  refine va_get (D := (dC, dI)) (ci := 2) (v := .long pme) (C := RX2) (T := TX2) (N := 9) hx hb hts inW_X2 hown hK hP 1 rfl rfl 5 (by decide) (hts _ wd_1_55) (fun _ h9 => h9) rfl dX0_rate_11 ?_
  refine lv_lsub hx hb dX0_rate_14 ?_
  exact hh_retl hQ (rfl) hx hb hr hlocks hP hK hD hS dX0_rate_15
def f_X0_withinLimits_r (klo khi : Int32) (v : Int64) : Int64 := (f_X5_hold_r v (klo.toInt64) (khi.toInt64))
set_option maxHeartbeats 4000000 in
set_option maxRecDepth 100000 in
theorem c_X0_withinLimits (l : Launch) (dC : Nat → ClassId) (dI : Nat → Nat → Nat) (cI cJ cZ cO : ClassId) (adc : Nat) (kp ki kd klo khi kgu ksh khe : Int32) (ksp kig ksu : Int64) (adp : Nat) (kle klr : Int64) (kgo : Int32) (v : Int64) (sz : Nat)  : Met l yX0_withinLimits (Cond.code yX0_withinLimits cX0_withinLimits 3 (some .long) :: wAll) ({ frames := 2, cells := 0, slots := 0, locals := 42 }) (va_Pc [.ref adc, .long v] (gP (dC, dI) [zX0 adc kp ki kd klo khi kgu ksh khe ksp kig ksu adp kle klr kgo] (tyG cI cJ cZ cO) sz gN)) (va_Ql (fun r (_ : Unit) => r = (f_X0_withinLimits_r klo khi v)) (fun _ t => gB (dC, dI) (va_A [zX0 adc kp ki kd klo khi kgu ksh khe ksp kig ksu adp kle klr kgo] sz) [zX0 adc kp ki kd klo khi kgu ksh khe ksp kig ksu adp kle klr kgo] (tyG cI cJ cZ cO) t) (va_A [zX0 adc kp ki kd klo khi kgu ksh khe ksp kig ksu adp kle klr kgo] sz)) 0 0 (va_A [zX0 adc kp ki kd klo khi kgu ksh khe ksp kig ksu adp kle klr kgo] sz) := by
  refine Met.ofW (cc := cX0_withinLimits) (maxL := 3) (ret := (some .long)) (by decide) rfl ?_
  intro p e s m args below meth c s₁ B hml hv
  obtain ⟨rfl, hsz, hP, hK, hD0, hG⟩ := hv
  have hx := B.exec
  have hb := B.bytes
  have hr := B.returns
  have hts := ht_of B.pre
  have hown : s.vm.findClass RX0 = some m.cls := findClass_of_methodNamed B.named
  have hlocks := B.notSynchronized
  subst hsz
  have hD := hD0.self (sz := s.heap.size)
  generalize hAe : va_A [zX0 adc kp ki kd klo khi kgu ksh khe ksp kig ksu adp kle klr kgo] s.heap.size = A at hD ⊢
  have hA : ∀ q : Nat, s.heap.size ≤ q → A q := fun q h => by rw [← hAe]; exact Or.inr h
  have hS : va_S A s.heap s.heap [] := va_S.rf
  have hP : va_P (dC, dI) vwCl [zX0 adc kp ki kd klo khi kgu ksh khe ksp kig ksu adp kle klr kgo] s.heap := hP
  have hl := lv_entry ([.ref adc, .long v]) (n := 3) (Nat.le_of_ble_eq_true rfl)
  rw [lg_entry_eq]
  generalize (lg_sl ([.ref adc, .long v]) ++ List.replicate (3 - (lg_sl ([.ref adc, .long v])).length) Slot.unset).toArray = ls at hl ⊢
  have hl : lv_has ls 3 [(0, .ref adc), (1, .long v)] := hl
  refine hh_name (fun Q hQ => ?_)
  refine lv_lload_n hx hb dX0_withinLimits_0 rfl (lv_at hl 1 rfl) ?_
  refine lv_aload_n hx hb dX0_withinLimits_1 rfl (lv_at hl 0 rfl) ?_
  refine va_get (D := (dC, dI)) (ci := 0) (v := .int klo) (C := RX0) (T := TX0) (N := 15) hx hb hts inW_X0 hown hK hP 0 rfl rfl 3 (by decide) (hts _ wd_1_89) (fun _ h9 => h9) rfl dX0_withinLimits_2 ?_
  refine lv_i2l hx hb dX0_withinLimits_5 rfl ?_
  refine lv_aload_n hx hb dX0_withinLimits_6 rfl (lv_at hl 0 rfl) ?_
  refine va_get (D := (dC, dI)) (ci := 0) (v := .int khi) (C := RX0) (T := TX0) (N := 15) hx hb hts inW_X0 hown hK hP 0 rfl rfl 4 (by decide) (hts _ wd_1_91) (fun _ h9 => h9) rfl dX0_withinLimits_7 ?_
  refine lv_i2l hx hb dX0_withinLimits_10 rfl ?_
  refine hh_calll (w2 := [zX0 adc kp ki kd klo khi kgu ksh khe ksp kig ksu adp kle klr kgo]) (va_runSN (As := [.long v, .long (klo.toInt64), .long (khi.toInt64)]) (rest := []) ⟨hx, hb, hml, hown, hts⟩ (c_X5_hold l dC dI cI cJ cZ cO v (klo.toInt64) (khi.toInt64) _) ⟨va_cnB 3 hts (gd_I wd_3_88) rfl rfl rfl hG.2.2.2.2.2.1 (hts _ wd_1_1) (by decide +kernel) ⟨Nat.le_of_ble_eq_true rfl, Nat.le_of_ble_eq_true rfl⟩, hts _ wd_3_87, trivial⟩ (hh_pS gN_c (fun U _ hW => gN_w hW hG) hK hP hD [] rfl rfl) rfl rfl hl.1 rfl (lv_room (Nat.le_of_ble_eq_true rfl)) dX0_withinLimits_11 ⟨Nat.le_of_ble_eq_true rfl, Nat.le_of_ble_eq_true rfl⟩) hP hD hS hA [] [0] [0] rfl rfl rfl (by decide) rfl rfl (fun H locs hP hD hS => ?_)
  exact hh_retl hQ (rfl) hx hb hr hlocks hP hK hD hS dX0_withinLimits_14
def f_X0_changeGains_kig (kp kd : Int32) (ksp kig pme pmb : Int64) (np nd : Int32) : Int64 := (kig + (((kp - np).toInt64 * (f_X0_error_r ksp pme)) + ((kd - nd).toInt64 * (f_X0_rate_r pme pmb))))
set_option maxHeartbeats 4000000 in
set_option maxRecDepth 100000 in
theorem c_X0_changeGains (l : Launch) (dC : Nat → ClassId) (dI : Nat → Nat → Nat) (cI cJ cZ cO : ClassId) (adc : Nat) (kp ki kd klo khi kgu ksh khe : Int32) (ksp kig ksu : Int64) (adp : Nat) (kle klr : Int64) (kgo pa1 pa2 pb pdt pld : Int32) (pme pmb : Int64) (ado : Nat) (plt np ni nd : Int32) (sz : Nat)  : Met l yX0_changeGains (Cond.code yX0_changeGains cX0_changeGains 4 none :: wAll) ({ frames := 1, cells := 0, slots := 0, locals := 20 }) (va_Pc [.ref adc, .int np, .int ni, .int nd] (gP (dC, dI) [zX0 adc kp ki kd klo khi kgu ksh khe ksp kig ksu adp kle klr kgo, zX2 adp pa1 pa2 pb pdt pld pme pmb ado plt] (tyG cI cJ cZ cO) sz gN)) (va_Qv (fun (_ : Unit) => True) (fun _ t => gB (dC, dI) (va_A [zX0 adc kp ki kd klo khi kgu ksh khe ksp kig ksu adp kle klr kgo, zX2 adp pa1 pa2 pb pdt pld pme pmb ado plt] sz) [zX0 adc np ni nd klo khi kgu ksh khe ksp (f_X0_changeGains_kig kp kd ksp kig pme pmb np nd) ksu adp kle klr kgo, zX2 adp pa1 pa2 pb pdt pld pme pmb ado plt] (tyG cI cJ cZ cO) t) (va_A [zX0 adc kp ki kd klo khi kgu ksh khe ksp kig ksu adp kle klr kgo, zX2 adp pa1 pa2 pb pdt pld pme pmb ado plt] sz)) 0 0 (va_A [zX0 adc kp ki kd klo khi kgu ksh khe ksp kig ksu adp kle klr kgo, zX2 adp pa1 pa2 pb pdt pld pme pmb ado plt] sz) := by
  refine Met.ofW (cc := cX0_changeGains) (maxL := 4) (ret := none) (by decide) rfl ?_
  intro p e s m args below meth c s₁ B hml hv
  obtain ⟨rfl, hsz, hP, hK, hD0, hG⟩ := hv
  have hx := B.exec
  have hb := B.bytes
  have hr := B.returns
  have hts := ht_of B.pre
  have hown : s.vm.findClass RX0 = some m.cls := findClass_of_methodNamed B.named
  have hlocks := B.notSynchronized
  subst hsz
  have hD := hD0.self (sz := s.heap.size)
  generalize hAe : va_A [zX0 adc kp ki kd klo khi kgu ksh khe ksp kig ksu adp kle klr kgo, zX2 adp pa1 pa2 pb pdt pld pme pmb ado plt] s.heap.size = A at hD ⊢
  have hA : ∀ q : Nat, s.heap.size ≤ q → A q := fun q h => by rw [← hAe]; exact Or.inr h
  have hS : va_S A s.heap s.heap [] := va_S.rf
  have hP : va_P (dC, dI) vwCl [zX0 adc kp ki kd klo khi kgu ksh khe ksp kig ksu adp kle klr kgo, zX2 adp pa1 pa2 pb pdt pld pme pmb ado plt] s.heap := hP
  have hl := lv_entry ([.ref adc, .int np, .int ni, .int nd]) (n := 4) (Nat.le_of_ble_eq_true rfl)
  rw [lg_entry_eq]
  generalize (lg_sl ([.ref adc, .int np, .int ni, .int nd]) ++ List.replicate (4 - (lg_sl ([.ref adc, .int np, .int ni, .int nd])).length) Slot.unset).toArray = ls at hl ⊢
  have hl : lv_has ls 4 [(0, .ref adc), (1, .int np), (2, .int ni), (3, .int nd)] := hl
  refine hh_name (fun Q hQ => ?_)
  refine lv_aload_n hx hb dX0_changeGains_0 rfl (lv_at hl 0 rfl) ?_
  refine lv_dup hx hb dX0_changeGains_1 rfl ?_
  refine va_get (D := (dC, dI)) (ci := 0) (v := .long kig) (C := RX0) (T := TX0) (N := 15) hx hb hts inW_X0 hown hK hP 0 rfl rfl 9 (by decide) (hts _ wd_1_102) (fun _ h9 => h9) rfl dX0_changeGains_2 ?_
  refine lv_aload_n hx hb dX0_changeGains_5 rfl (lv_at hl 0 rfl) ?_
  refine va_get (D := (dC, dI)) (ci := 0) (v := .int kp) (C := RX0) (T := TX0) (N := 15) hx hb hts inW_X0 hown hK hP 0 rfl rfl 0 (by decide) (hts _ wd_1_83) (fun _ h9 => h9) rfl dX0_changeGains_6 ?_
  refine lv_iload_n hx hb dX0_changeGains_9 rfl (lv_at hl 1 rfl) ?_
  refine lv_isub hx hb dX0_changeGains_10 ?_
  refine lv_i2l hx hb dX0_changeGains_11 rfl ?_
  refine lv_aload_n hx hb dX0_changeGains_12 rfl (lv_at hl 0 rfl) ?_
  refine hh_calll (w2 := [zX0 adc kp ki kd klo khi kgu ksh khe ksp kig ksu adp kle klr kgo, zX2 adp pa1 pa2 pb pdt pld pme pmb ado plt]) (va_runV (As := []) (rest := [.long ((kp - np).toInt64), .long kig, .ref adc]) ⟨hx, hb, hml, hown, hts⟩ (c_X0_error l dC dI cI cJ cZ cO adc kp ki kd klo khi kgu ksh khe ksp kig ksu adp kle klr kgo pa1 pa2 pb pdt pld pme pmb ado plt _) (cwV 0 hts (gd_V wd_2_196 wd_2_197 wd_2_198 wd_1_3 wd_2_199) rfl rfl rfl (by decide +kernel) ⟨Nat.le_of_ble_eq_true rfl, Nat.le_of_ble_eq_true rfl⟩) (hh_pV (ci := 0) (q := (RX0, TX0, 15)) (q0 := 0) rfl rfl gN_c (fun U _ hW => gN_w hW hG) hK hP hD [0, 1] rfl rfl) rfl rfl hl.1 rfl (lv_room (Nat.le_of_ble_eq_true rfl)) dX0_changeGains_13 ⟨Nat.le_of_ble_eq_true rfl, Nat.le_of_ble_eq_true rfl⟩) hP hD hS hA [0, 1] [] [0, 1] rfl rfl rfl (by decide) rfl rfl (fun H locs hP hD hS => ?_)
  refine lv_lmul hx hb dX0_changeGains_16 ?_
  refine lv_aload_n hx hb dX0_changeGains_17 rfl (lv_at hl 0 rfl) ?_
  refine va_get (D := (dC, dI)) (ci := 0) (v := .int kd) (C := RX0) (T := TX0) (N := 15) hx hb hts inW_X0 hown hK hP 0 rfl rfl 2 (by decide) (hts _ wd_1_87) (fun _ h9 => h9) rfl dX0_changeGains_18 ?_
  refine lv_iload_n hx hb dX0_changeGains_21 rfl (lv_at hl 3 rfl) ?_
  refine lv_isub hx hb dX0_changeGains_22 ?_
  refine lv_i2l hx hb dX0_changeGains_23 rfl ?_
  refine lv_aload_n hx hb dX0_changeGains_24 rfl (lv_at hl 0 rfl) ?_
  refine hh_calll (w2 := [zX0 adc kp ki kd klo khi kgu ksh khe ksp kig ksu adp kle klr kgo, zX2 adp pa1 pa2 pb pdt pld pme pmb ado plt]) (va_runV (As := []) (rest := [.long ((kd - nd).toInt64), .long ((kp - np).toInt64 * (f_X0_error_r ksp pme)), .long kig, .ref adc]) ⟨hx, hb, hml, hown, hts⟩ (c_X0_rate l dC dI cI cJ cZ cO adc kp ki kd klo khi kgu ksh khe ksp kig ksu adp kle klr kgo pa1 pa2 pb pdt pld pme pmb ado plt _) (cwV 0 hts (gd_V wd_2_200 wd_2_202 wd_p_2 wd_1_3 wd_2_203) rfl rfl rfl (by decide +kernel) ⟨Nat.le_of_ble_eq_true rfl, Nat.le_of_ble_eq_true rfl⟩) (hh_pV (ci := 0) (q := (RX0, TX0, 15)) (q0 := 0) rfl rfl gN_c (fun U _ hW => gN_w hW hG) hK hP hD [0, 1] rfl rfl) rfl rfl hl.1 rfl (lv_room (Nat.le_of_ble_eq_true rfl)) dX0_changeGains_25 ⟨Nat.le_of_ble_eq_true rfl, Nat.le_of_ble_eq_true rfl⟩) hP hD hS hA [0, 1] [] [0, 1] rfl rfl rfl (by decide) rfl rfl (fun H locs hP hD hS => ?_)
  refine lv_lmul hx hb dX0_changeGains_28 ?_
  refine lv_ladd hx hb dX0_changeGains_29 ?_
  refine lv_ladd hx hb dX0_changeGains_30 ?_
  refine va_put (D := (dC, dI)) (ci := 0) (v := .long (kig + (((kp - np).toInt64 * (f_X0_error_r ksp pme)) + ((kd - nd).toInt64 * (f_X0_rate_r pme pmb))))) (ty := .long) (C := RX0) (T := TX0) (N := 15) hx hb hts inW_X0 tyX0 tyX0_ok nmX0 hown hK hP hD hS 0 rfl rfl 9 (by decide) (hts _ wd_1_102) (fun _ h9 => h9) rfl (tyX0_ok 9 (by decide)) rfl rfl (Nat.le_of_ble_eq_true rfl) dX0_changeGains_31 (fun H locs hP hD hS => ?_)
  have hP : va_P (dC, dI) vwCl [zX0 adc kp ki kd klo khi kgu ksh khe ksp (kig + (((kp - np).toInt64 * (f_X0_error_r ksp pme)) + ((kd - nd).toInt64 * (f_X0_rate_r pme pmb)))) ksu adp kle klr kgo, zX2 adp pa1 pa2 pb pdt pld pme pmb ado plt] H := hP
  have hD : va_D A [zX0 adc kp ki kd klo khi kgu ksh khe ksp (kig + (((kp - np).toInt64 * (f_X0_error_r ksp pme)) + ((kd - nd).toInt64 * (f_X0_rate_r pme pmb)))) ksu adp kle klr kgo, zX2 adp pa1 pa2 pb pdt pld pme pmb ado plt] := hD
  refine lv_aload_n hx hb dX0_changeGains_34 rfl (lv_at hl 0 rfl) ?_
  refine lv_iload_n hx hb dX0_changeGains_35 rfl (lv_at hl 1 rfl) ?_
  refine va_put (D := (dC, dI)) (ci := 0) (v := .int np) (ty := .int) (C := RX0) (T := TX0) (N := 15) hx hb hts inW_X0 tyX0 tyX0_ok nmX0 hown hK hP hD hS 0 rfl rfl 0 (by decide) (hts _ wd_1_83) (fun _ h9 => h9) rfl (tyX0_ok 0 (by decide)) rfl rfl (Nat.le_of_ble_eq_true rfl) dX0_changeGains_36 (fun H locs hP hD hS => ?_)
  have hP : va_P (dC, dI) vwCl [zX0 adc np ki kd klo khi kgu ksh khe ksp (kig + (((kp - np).toInt64 * (f_X0_error_r ksp pme)) + ((kd - nd).toInt64 * (f_X0_rate_r pme pmb)))) ksu adp kle klr kgo, zX2 adp pa1 pa2 pb pdt pld pme pmb ado plt] H := hP
  have hD : va_D A [zX0 adc np ki kd klo khi kgu ksh khe ksp (kig + (((kp - np).toInt64 * (f_X0_error_r ksp pme)) + ((kd - nd).toInt64 * (f_X0_rate_r pme pmb)))) ksu adp kle klr kgo, zX2 adp pa1 pa2 pb pdt pld pme pmb ado plt] := hD
  refine lv_aload_n hx hb dX0_changeGains_39 rfl (lv_at hl 0 rfl) ?_
  refine lv_iload_n hx hb dX0_changeGains_40 rfl (lv_at hl 2 rfl) ?_
  refine va_put (D := (dC, dI)) (ci := 0) (v := .int ni) (ty := .int) (C := RX0) (T := TX0) (N := 15) hx hb hts inW_X0 tyX0 tyX0_ok nmX0 hown hK hP hD hS 0 rfl rfl 1 (by decide) (hts _ wd_1_85) (fun _ h9 => h9) rfl (tyX0_ok 1 (by decide)) rfl rfl (Nat.le_of_ble_eq_true rfl) dX0_changeGains_41 (fun H locs hP hD hS => ?_)
  have hP : va_P (dC, dI) vwCl [zX0 adc np ni kd klo khi kgu ksh khe ksp (kig + (((kp - np).toInt64 * (f_X0_error_r ksp pme)) + ((kd - nd).toInt64 * (f_X0_rate_r pme pmb)))) ksu adp kle klr kgo, zX2 adp pa1 pa2 pb pdt pld pme pmb ado plt] H := hP
  have hD : va_D A [zX0 adc np ni kd klo khi kgu ksh khe ksp (kig + (((kp - np).toInt64 * (f_X0_error_r ksp pme)) + ((kd - nd).toInt64 * (f_X0_rate_r pme pmb)))) ksu adp kle klr kgo, zX2 adp pa1 pa2 pb pdt pld pme pmb ado plt] := hD
  refine lv_aload_n hx hb dX0_changeGains_44 rfl (lv_at hl 0 rfl) ?_
  refine lv_iload_n hx hb dX0_changeGains_45 rfl (lv_at hl 3 rfl) ?_
  refine va_put (D := (dC, dI)) (ci := 0) (v := .int nd) (ty := .int) (C := RX0) (T := TX0) (N := 15) hx hb hts inW_X0 tyX0 tyX0_ok nmX0 hown hK hP hD hS 0 rfl rfl 2 (by decide) (hts _ wd_1_87) (fun _ h9 => h9) rfl (tyX0_ok 2 (by decide)) rfl rfl (Nat.le_of_ble_eq_true rfl) dX0_changeGains_46 (fun H locs hP hD hS => ?_)
  have hP : va_P (dC, dI) vwCl [zX0 adc np ni nd klo khi kgu ksh khe ksp (kig + (((kp - np).toInt64 * (f_X0_error_r ksp pme)) + ((kd - nd).toInt64 * (f_X0_rate_r pme pmb)))) ksu adp kle klr kgo, zX2 adp pa1 pa2 pb pdt pld pme pmb ado plt] H := hP
  have hD : va_D A [zX0 adc np ni nd klo khi kgu ksh khe ksp (kig + (((kp - np).toInt64 * (f_X0_error_r ksp pme)) + ((kd - nd).toInt64 * (f_X0_rate_r pme pmb)))) ksu adp kle klr kgo, zX2 adp pa1 pa2 pb pdt pld pme pmb ado plt] := hD
  exact hh_retv hQ hx hb hr hlocks hP hK hD hS dX0_changeGains_49
def f_X0_settle_kig (kp kd : Int32) (ksp pme pmb v : Int64) : Int64 := ((((1000 : Int64) * v) - (kp.toInt64 * (f_X0_error_r ksp pme))) - (kd.toInt64 * (f_X0_rate_r pme pmb)))
set_option maxHeartbeats 4000000 in
set_option maxRecDepth 100000 in
theorem c_X0_settle (l : Launch) (dC : Nat → ClassId) (dI : Nat → Nat → Nat) (cI cJ cZ cO : ClassId) (adc : Nat) (kp ki kd klo khi kgu ksh khe : Int32) (ksp kig ksu : Int64) (adp : Nat) (kle klr : Int64) (kgo pa1 pa2 pb pdt pld : Int32) (pme pmb : Int64) (ado : Nat) (plt : Int32) (v : Int64) (sz : Nat)  : Met l yX0_settle (Cond.code yX0_settle cX0_settle 3 none :: wAll) ({ frames := 1, cells := 0, slots := 0, locals := 20 }) (va_Pc [.ref adc, .long v] (gP (dC, dI) [zX0 adc kp ki kd klo khi kgu ksh khe ksp kig ksu adp kle klr kgo, zX2 adp pa1 pa2 pb pdt pld pme pmb ado plt] (tyG cI cJ cZ cO) sz gN)) (va_Qv (fun (_ : Unit) => True) (fun _ t => gB (dC, dI) (va_A [zX0 adc kp ki kd klo khi kgu ksh khe ksp kig ksu adp kle klr kgo, zX2 adp pa1 pa2 pb pdt pld pme pmb ado plt] sz) [zX0 adc kp ki kd klo khi kgu ksh khe ksp (f_X0_settle_kig kp kd ksp pme pmb v) ksu adp kle klr (0 : Int32), zX2 adp pa1 pa2 pb pdt pld pme pmb ado plt] (tyG cI cJ cZ cO) t) (va_A [zX0 adc kp ki kd klo khi kgu ksh khe ksp kig ksu adp kle klr kgo, zX2 adp pa1 pa2 pb pdt pld pme pmb ado plt] sz)) 0 0 (va_A [zX0 adc kp ki kd klo khi kgu ksh khe ksp kig ksu adp kle klr kgo, zX2 adp pa1 pa2 pb pdt pld pme pmb ado plt] sz) := by
  refine Met.ofW (cc := cX0_settle) (maxL := 3) (ret := none) (by decide) rfl ?_
  intro p e s m args below meth c s₁ B hml hv
  obtain ⟨rfl, hsz, hP, hK, hD0, hG⟩ := hv
  have hx := B.exec
  have hb := B.bytes
  have hr := B.returns
  have hts := ht_of B.pre
  have hown : s.vm.findClass RX0 = some m.cls := findClass_of_methodNamed B.named
  have hlocks := B.notSynchronized
  subst hsz
  have hD := hD0.self (sz := s.heap.size)
  generalize hAe : va_A [zX0 adc kp ki kd klo khi kgu ksh khe ksp kig ksu adp kle klr kgo, zX2 adp pa1 pa2 pb pdt pld pme pmb ado plt] s.heap.size = A at hD ⊢
  have hA : ∀ q : Nat, s.heap.size ≤ q → A q := fun q h => by rw [← hAe]; exact Or.inr h
  have hS : va_S A s.heap s.heap [] := va_S.rf
  have hP : va_P (dC, dI) vwCl [zX0 adc kp ki kd klo khi kgu ksh khe ksp kig ksu adp kle klr kgo, zX2 adp pa1 pa2 pb pdt pld pme pmb ado plt] s.heap := hP
  have hl := lv_entry ([.ref adc, .long v]) (n := 3) (Nat.le_of_ble_eq_true rfl)
  rw [lg_entry_eq]
  generalize (lg_sl ([.ref adc, .long v]) ++ List.replicate (3 - (lg_sl ([.ref adc, .long v])).length) Slot.unset).toArray = ls at hl ⊢
  have hl : lv_has ls 3 [(0, .ref adc), (1, .long v)] := hl
  refine hh_name (fun Q hQ => ?_)
  refine lv_aload_n hx hb dX0_settle_0 rfl (lv_at hl 0 rfl) ?_
  refine lv_ldc2 (v := 1000) hx hb hown (hts _ wd_3_33) dX0_settle_1 ?_
  refine lv_lload_n hx hb dX0_settle_4 rfl (lv_at hl 1 rfl) ?_
  refine lv_lmul hx hb dX0_settle_5 ?_
  refine lv_aload_n hx hb dX0_settle_6 rfl (lv_at hl 0 rfl) ?_
  refine va_get (D := (dC, dI)) (ci := 0) (v := .int kp) (C := RX0) (T := TX0) (N := 15) hx hb hts inW_X0 hown hK hP 0 rfl rfl 0 (by decide) (hts _ wd_1_83) (fun _ h9 => h9) rfl dX0_settle_7 ?_
  refine lv_i2l hx hb dX0_settle_10 rfl ?_
  refine lv_aload_n hx hb dX0_settle_11 rfl (lv_at hl 0 rfl) ?_
  refine hh_calll (w2 := [zX0 adc kp ki kd klo khi kgu ksh khe ksp kig ksu adp kle klr kgo, zX2 adp pa1 pa2 pb pdt pld pme pmb ado plt]) (va_runV (As := []) (rest := [.long (kp.toInt64), .long ((1000 : Int64) * v), .ref adc]) ⟨hx, hb, hml, hown, hts⟩ (c_X0_error l dC dI cI cJ cZ cO adc kp ki kd klo khi kgu ksh khe ksp kig ksu adp kle klr kgo pa1 pa2 pb pdt pld pme pmb ado plt _) (cwV 0 hts (gd_V wd_2_196 wd_2_197 wd_2_198 wd_1_3 wd_2_199) rfl rfl rfl (by decide +kernel) ⟨Nat.le_of_ble_eq_true rfl, Nat.le_of_ble_eq_true rfl⟩) (hh_pV (ci := 0) (q := (RX0, TX0, 15)) (q0 := 0) rfl rfl gN_c (fun U _ hW => gN_w hW hG) hK hP hD [0, 1] rfl rfl) rfl rfl hl.1 rfl (lv_room (Nat.le_of_ble_eq_true rfl)) dX0_settle_12 ⟨Nat.le_of_ble_eq_true rfl, Nat.le_of_ble_eq_true rfl⟩) hP hD hS hA [0, 1] [] [0, 1] rfl rfl rfl (by decide) rfl rfl (fun H locs hP hD hS => ?_)
  refine lv_lmul hx hb dX0_settle_15 ?_
  refine lv_lsub hx hb dX0_settle_16 ?_
  refine lv_aload_n hx hb dX0_settle_17 rfl (lv_at hl 0 rfl) ?_
  refine va_get (D := (dC, dI)) (ci := 0) (v := .int kd) (C := RX0) (T := TX0) (N := 15) hx hb hts inW_X0 hown hK hP 0 rfl rfl 2 (by decide) (hts _ wd_1_87) (fun _ h9 => h9) rfl dX0_settle_18 ?_
  refine lv_i2l hx hb dX0_settle_21 rfl ?_
  refine lv_aload_n hx hb dX0_settle_22 rfl (lv_at hl 0 rfl) ?_
  refine hh_calll (w2 := [zX0 adc kp ki kd klo khi kgu ksh khe ksp kig ksu adp kle klr kgo, zX2 adp pa1 pa2 pb pdt pld pme pmb ado plt]) (va_runV (As := []) (rest := [.long (kd.toInt64), .long (((1000 : Int64) * v) - (kp.toInt64 * (f_X0_error_r ksp pme))), .ref adc]) ⟨hx, hb, hml, hown, hts⟩ (c_X0_rate l dC dI cI cJ cZ cO adc kp ki kd klo khi kgu ksh khe ksp kig ksu adp kle klr kgo pa1 pa2 pb pdt pld pme pmb ado plt _) (cwV 0 hts (gd_V wd_2_200 wd_2_202 wd_p_2 wd_1_3 wd_2_203) rfl rfl rfl (by decide +kernel) ⟨Nat.le_of_ble_eq_true rfl, Nat.le_of_ble_eq_true rfl⟩) (hh_pV (ci := 0) (q := (RX0, TX0, 15)) (q0 := 0) rfl rfl gN_c (fun U _ hW => gN_w hW hG) hK hP hD [0, 1] rfl rfl) rfl rfl hl.1 rfl (lv_room (Nat.le_of_ble_eq_true rfl)) dX0_settle_23 ⟨Nat.le_of_ble_eq_true rfl, Nat.le_of_ble_eq_true rfl⟩) hP hD hS hA [0, 1] [] [0, 1] rfl rfl rfl (by decide) rfl rfl (fun H locs hP hD hS => ?_)
  refine lv_lmul hx hb dX0_settle_26 ?_
  refine lv_lsub hx hb dX0_settle_27 ?_
  refine va_put (D := (dC, dI)) (ci := 0) (v := .long ((((1000 : Int64) * v) - (kp.toInt64 * (f_X0_error_r ksp pme))) - (kd.toInt64 * (f_X0_rate_r pme pmb)))) (ty := .long) (C := RX0) (T := TX0) (N := 15) hx hb hts inW_X0 tyX0 tyX0_ok nmX0 hown hK hP hD hS 0 rfl rfl 9 (by decide) (hts _ wd_1_102) (fun _ h9 => h9) rfl (tyX0_ok 9 (by decide)) rfl rfl (Nat.le_of_ble_eq_true rfl) dX0_settle_28 (fun H locs hP hD hS => ?_)
  have hP : va_P (dC, dI) vwCl [zX0 adc kp ki kd klo khi kgu ksh khe ksp ((((1000 : Int64) * v) - (kp.toInt64 * (f_X0_error_r ksp pme))) - (kd.toInt64 * (f_X0_rate_r pme pmb))) ksu adp kle klr kgo, zX2 adp pa1 pa2 pb pdt pld pme pmb ado plt] H := hP
  have hD : va_D A [zX0 adc kp ki kd klo khi kgu ksh khe ksp ((((1000 : Int64) * v) - (kp.toInt64 * (f_X0_error_r ksp pme))) - (kd.toInt64 * (f_X0_rate_r pme pmb))) ksu adp kle klr kgo, zX2 adp pa1 pa2 pb pdt pld pme pmb ado plt] := hD
  refine lv_aload_n hx hb dX0_settle_31 rfl (lv_at hl 0 rfl) ?_
  refine lv_iconst (v := 0) hx hb dX0_settle_32 (by decide) ?_
  refine va_put (D := (dC, dI)) (ci := 0) (v := .int (0 : Int32)) (ty := .boolean) (C := RX0) (T := TX0) (N := 15) hx hb hts inW_X0 tyX0 tyX0_ok nmX0 hown hK hP hD hS 0 rfl rfl 14 (by decide) (hts _ wd_1_110) (fun _ h9 => h9) rfl (tyX0_ok 14 (by decide)) rfl rfl (Nat.le_of_ble_eq_true rfl) dX0_settle_33 (fun H locs hP hD hS => ?_)
  have hP : va_P (dC, dI) vwCl [zX0 adc kp ki kd klo khi kgu ksh khe ksp ((((1000 : Int64) * v) - (kp.toInt64 * (f_X0_error_r ksp pme))) - (kd.toInt64 * (f_X0_rate_r pme pmb))) ksu adp kle klr (0 : Int32), zX2 adp pa1 pa2 pb pdt pld pme pmb ado plt] H := hP
  have hD : va_D A [zX0 adc kp ki kd klo khi kgu ksh khe ksp ((((1000 : Int64) * v) - (kp.toInt64 * (f_X0_error_r ksp pme))) - (kd.toInt64 * (f_X0_rate_r pme pmb))) ksu adp kle klr (0 : Int32), zX2 adp pa1 pa2 pb pdt pld pme pmb ado plt] := hD
  exact hh_retv hQ hx hb hr hlocks hP hK hD hS dX0_settle_36
def f_X0_countIncrements_j1_1 (kp ki kd : Int32) (ksu kle klr : Int64) (kgo : Int32) (e1 r1 s1 : Int64) : Int64 := if kgo = (0 : Int32) then s1 else (ksu + (((kp.toInt64 * (e1 - kle)) + (ki.toInt64 * e1)) + (kd.toInt64 * (r1 - klr))))
set_option maxHeartbeats 4000000 in
set_option maxRecDepth 100000 in
theorem c_X0_countIncrements (l : Launch) (dC : Nat → ClassId) (dI : Nat → Nat → Nat) (cI cJ cZ cO : ClassId) (adc : Nat) (kp ki kd klo khi kgu ksh khe : Int32) (ksp kig ksu : Int64) (adp : Nat) (kle klr : Int64) (kgo : Int32) (e1 r1 s1 : Int64) (sz : Nat)  : Met l yX0_countIncrements (Cond.code yX0_countIncrements cX0_countIncrements 7 none :: wAll) ({ frames := 0, cells := 0, slots := 0, locals := 0 }) (va_Pc [.ref adc, .long e1, .long r1, .long s1] (gP (dC, dI) [zX0 adc kp ki kd klo khi kgu ksh khe ksp kig ksu adp kle klr kgo] (tyG cI cJ cZ cO) sz gN)) (va_Qv (fun (_ : Unit) => True) (fun _ t => gB (dC, dI) (va_A [zX0 adc kp ki kd klo khi kgu ksh khe ksp kig ksu adp kle klr kgo] sz) [zX0 adc kp ki kd klo khi kgu ksh khe ksp kig (f_X0_countIncrements_j1_1 kp ki kd ksu kle klr kgo e1 r1 s1) adp e1 r1 (1 : Int32)] (tyG cI cJ cZ cO) t) (va_A [zX0 adc kp ki kd klo khi kgu ksh khe ksp kig ksu adp kle klr kgo] sz)) 0 0 (va_A [zX0 adc kp ki kd klo khi kgu ksh khe ksp kig ksu adp kle klr kgo] sz) := by
  refine Met.ofW (cc := cX0_countIncrements) (maxL := 7) (ret := none) (by decide) rfl ?_
  intro p e s m args below meth c s₁ B hml hv
  obtain ⟨rfl, hsz, hP, hK, hD0, hG⟩ := hv
  have hx := B.exec
  have hb := B.bytes
  have hr := B.returns
  have hts := ht_of B.pre
  have hown : s.vm.findClass RX0 = some m.cls := findClass_of_methodNamed B.named
  have hlocks := B.notSynchronized
  subst hsz
  have hD := hD0.self (sz := s.heap.size)
  generalize hAe : va_A [zX0 adc kp ki kd klo khi kgu ksh khe ksp kig ksu adp kle klr kgo] s.heap.size = A at hD ⊢
  have hA : ∀ q : Nat, s.heap.size ≤ q → A q := fun q h => by rw [← hAe]; exact Or.inr h
  have hS : va_S A s.heap s.heap [] := va_S.rf
  have hP : va_P (dC, dI) vwCl [zX0 adc kp ki kd klo khi kgu ksh khe ksp kig ksu adp kle klr kgo] s.heap := hP
  have hl := lv_entry ([.ref adc, .long e1, .long r1, .long s1]) (n := 7) (Nat.le_of_ble_eq_true rfl)
  rw [lg_entry_eq]
  generalize (lg_sl ([.ref adc, .long e1, .long r1, .long s1]) ++ List.replicate (7 - (lg_sl ([.ref adc, .long e1, .long r1, .long s1])).length) Slot.unset).toArray = ls at hl ⊢
  have hl : lv_has ls 7 [(0, .ref adc), (1, .long e1), (3, .long r1), (5, .long s1)] := hl
  refine hh_name (fun Q hQ => ?_)
  refine lv_aload_n hx hb dX0_countIncrements_0 rfl (lv_at hl 0 rfl) ?_
  refine va_get (D := (dC, dI)) (ci := 0) (v := .int kgo) (C := RX0) (T := TX0) (N := 15) hx hb hts inW_X0 hown hK hP 0 rfl rfl 14 (by decide) (hts _ wd_1_110) (fun _ h9 => h9) rfl dX0_countIncrements_1 ?_
  have J1 : ∀ (H : Heap) (locs : List Loc) (ls : Array Slot), va_P (dC, dI) vwCl [zX0 adc kp ki kd klo khi kgu ksh khe ksp kig (f_X0_countIncrements_j1_1 kp ki kd ksu kle klr kgo e1 r1 s1) adp kle klr kgo] H → va_D A [zX0 adc kp ki kd klo khi kgu ksh khe ksp kig (f_X0_countIncrements_j1_1 kp ki kd ksu kle klr kgo e1 r1 s1) adp kle klr kgo] → va_S A s.heap H locs → lv_has ls 7 [(0, .ref adc), (1, .long e1), (3, .long r1), (5, .long s1)] → W p l e (headSpec (Cond.code yX0_countIncrements cX0_countIncrements 7 none :: wAll) ({ frames := 0, cells := 0, slots := 0, locals := 0 })).room s m ([.ref adc, .long e1, .long r1, .long s1] : List Value).toArray below meth c H locs 0 0 Q (F0 m 58 ls []) := by
    intro H locs ls hP hD hS hl
    refine lv_aload_n hx hb dX0_countIncrements_58 rfl (lv_at hl 0 rfl) ?_
    refine lv_lload_n hx hb dX0_countIncrements_59 rfl (lv_at hl 1 rfl) ?_
    refine va_put (D := (dC, dI)) (ci := 0) (v := .long e1) (ty := .long) (C := RX0) (T := TX0) (N := 15) hx hb hts inW_X0 tyX0 tyX0_ok nmX0 hown hK hP hD hS 0 rfl rfl 12 (by decide) (hts _ wd_1_108) (fun _ h9 => h9) rfl (tyX0_ok 12 (by decide)) rfl rfl (Nat.le_of_ble_eq_true rfl) dX0_countIncrements_60 (fun H locs hP hD hS => ?_)
    have hP : va_P (dC, dI) vwCl [zX0 adc kp ki kd klo khi kgu ksh khe ksp kig (f_X0_countIncrements_j1_1 kp ki kd ksu kle klr kgo e1 r1 s1) adp e1 klr kgo] H := hP
    have hD : va_D A [zX0 adc kp ki kd klo khi kgu ksh khe ksp kig (f_X0_countIncrements_j1_1 kp ki kd ksu kle klr kgo e1 r1 s1) adp e1 klr kgo] := hD
    refine lv_aload_n hx hb dX0_countIncrements_63 rfl (lv_at hl 0 rfl) ?_
    refine lv_lload_n hx hb dX0_countIncrements_64 rfl (lv_at hl 2 rfl) ?_
    refine va_put (D := (dC, dI)) (ci := 0) (v := .long r1) (ty := .long) (C := RX0) (T := TX0) (N := 15) hx hb hts inW_X0 tyX0 tyX0_ok nmX0 hown hK hP hD hS 0 rfl rfl 13 (by decide) (hts _ wd_1_109) (fun _ h9 => h9) rfl (tyX0_ok 13 (by decide)) rfl rfl (Nat.le_of_ble_eq_true rfl) dX0_countIncrements_65 (fun H locs hP hD hS => ?_)
    have hP : va_P (dC, dI) vwCl [zX0 adc kp ki kd klo khi kgu ksh khe ksp kig (f_X0_countIncrements_j1_1 kp ki kd ksu kle klr kgo e1 r1 s1) adp e1 r1 kgo] H := hP
    have hD : va_D A [zX0 adc kp ki kd klo khi kgu ksh khe ksp kig (f_X0_countIncrements_j1_1 kp ki kd ksu kle klr kgo e1 r1 s1) adp e1 r1 kgo] := hD
    refine lv_aload_n hx hb dX0_countIncrements_68 rfl (lv_at hl 0 rfl) ?_
    refine lv_iconst (v := 1) hx hb dX0_countIncrements_69 (by decide) ?_
    refine va_put (D := (dC, dI)) (ci := 0) (v := .int (1 : Int32)) (ty := .boolean) (C := RX0) (T := TX0) (N := 15) hx hb hts inW_X0 tyX0 tyX0_ok nmX0 hown hK hP hD hS 0 rfl rfl 14 (by decide) (hts _ wd_1_110) (fun _ h9 => h9) rfl (tyX0_ok 14 (by decide)) rfl rfl (Nat.le_of_ble_eq_true rfl) dX0_countIncrements_70 (fun H locs hP hD hS => ?_)
    have hP : va_P (dC, dI) vwCl [zX0 adc kp ki kd klo khi kgu ksh khe ksp kig (f_X0_countIncrements_j1_1 kp ki kd ksu kle klr kgo e1 r1 s1) adp e1 r1 (1 : Int32)] H := hP
    have hD : va_D A [zX0 adc kp ki kd klo khi kgu ksh khe ksp kig (f_X0_countIncrements_j1_1 kp ki kd ksu kle klr kgo e1 r1 s1) adp e1 r1 (1 : Int32)] := hD
    exact hh_retv hQ hx hb hr hlocks hP hK hD hS dX0_countIncrements_73
  refine lv_if_eq (tgt := 52) hx hb dX0_countIncrements_4 (by decide) (fun h1 => ?_) (fun h1 => ?_)
  · skip
    refine lv_aload_n hx hb dX0_countIncrements_52 rfl (lv_at hl 0 rfl) ?_
    refine lv_lload hx hb dX0_countIncrements_53 (lv_at hl 3 rfl) ?_
    refine va_put (D := (dC, dI)) (ci := 0) (v := .long s1) (ty := .long) (C := RX0) (T := TX0) (N := 15) hx hb hts inW_X0 tyX0 tyX0_ok nmX0 hown hK hP hD hS 0 rfl rfl 10 (by decide) (hts _ wd_1_104) (fun _ h9 => h9) rfl (tyX0_ok 10 (by decide)) rfl rfl (Nat.le_of_ble_eq_true rfl) dX0_countIncrements_55 (fun H locs hP hD hS => ?_)
    have hP : va_P (dC, dI) vwCl [zX0 adc kp ki kd klo khi kgu ksh khe ksp kig s1 adp kle klr kgo] H := hP
    have hD : va_D A [zX0 adc kp ki kd klo khi kgu ksh khe ksp kig s1 adp kle klr kgo] := hD
    have e2 : (f_X0_countIncrements_j1_1 kp ki kd ksu kle klr kgo e1 r1 s1) = s1 := if_pos h1
    exact J1 _ _ _ (by rw [show (f_X0_countIncrements_j1_1 kp ki kd ksu kle klr kgo e1 r1 s1) = s1 from if_pos h1]; exact hP) (by rw [show (f_X0_countIncrements_j1_1 kp ki kd ksu kle klr kgo e1 r1 s1) = s1 from if_pos h1]; exact hD) hS (lv_sub hl [0, 1, 2, 3] rfl)
  · skip
    refine lv_aload_n hx hb dX0_countIncrements_7 rfl (lv_at hl 0 rfl) ?_
    refine lv_dup hx hb dX0_countIncrements_8 rfl ?_
    refine va_get (D := (dC, dI)) (ci := 0) (v := .long ksu) (C := RX0) (T := TX0) (N := 15) hx hb hts inW_X0 hown hK hP 0 rfl rfl 10 (by decide) (hts _ wd_1_104) (fun _ h9 => h9) rfl dX0_countIncrements_9 ?_
    refine lv_aload_n hx hb dX0_countIncrements_12 rfl (lv_at hl 0 rfl) ?_
    refine va_get (D := (dC, dI)) (ci := 0) (v := .int kp) (C := RX0) (T := TX0) (N := 15) hx hb hts inW_X0 hown hK hP 0 rfl rfl 0 (by decide) (hts _ wd_1_83) (fun _ h9 => h9) rfl dX0_countIncrements_13 ?_
    refine lv_i2l hx hb dX0_countIncrements_16 rfl ?_
    refine lv_lload_n hx hb dX0_countIncrements_17 rfl (lv_at hl 1 rfl) ?_
    refine lv_aload_n hx hb dX0_countIncrements_18 rfl (lv_at hl 0 rfl) ?_
    refine va_get (D := (dC, dI)) (ci := 0) (v := .long kle) (C := RX0) (T := TX0) (N := 15) hx hb hts inW_X0 hown hK hP 0 rfl rfl 12 (by decide) (hts _ wd_1_108) (fun _ h9 => h9) rfl dX0_countIncrements_19 ?_
    refine lv_lsub hx hb dX0_countIncrements_22 ?_
    refine lv_lmul hx hb dX0_countIncrements_23 ?_
    refine lv_aload_n hx hb dX0_countIncrements_24 rfl (lv_at hl 0 rfl) ?_
    refine va_get (D := (dC, dI)) (ci := 0) (v := .int ki) (C := RX0) (T := TX0) (N := 15) hx hb hts inW_X0 hown hK hP 0 rfl rfl 1 (by decide) (hts _ wd_1_85) (fun _ h9 => h9) rfl dX0_countIncrements_25 ?_
    refine lv_i2l hx hb dX0_countIncrements_28 rfl ?_
    refine lv_lload_n hx hb dX0_countIncrements_29 rfl (lv_at hl 1 rfl) ?_
    refine lv_lmul hx hb dX0_countIncrements_30 ?_
    refine lv_ladd hx hb dX0_countIncrements_31 ?_
    refine lv_aload_n hx hb dX0_countIncrements_32 rfl (lv_at hl 0 rfl) ?_
    refine va_get (D := (dC, dI)) (ci := 0) (v := .int kd) (C := RX0) (T := TX0) (N := 15) hx hb hts inW_X0 hown hK hP 0 rfl rfl 2 (by decide) (hts _ wd_1_87) (fun _ h9 => h9) rfl dX0_countIncrements_33 ?_
    refine lv_i2l hx hb dX0_countIncrements_36 rfl ?_
    refine lv_lload_n hx hb dX0_countIncrements_37 rfl (lv_at hl 2 rfl) ?_
    refine lv_aload_n hx hb dX0_countIncrements_38 rfl (lv_at hl 0 rfl) ?_
    refine va_get (D := (dC, dI)) (ci := 0) (v := .long klr) (C := RX0) (T := TX0) (N := 15) hx hb hts inW_X0 hown hK hP 0 rfl rfl 13 (by decide) (hts _ wd_1_109) (fun _ h9 => h9) rfl dX0_countIncrements_39 ?_
    refine lv_lsub hx hb dX0_countIncrements_42 ?_
    refine lv_lmul hx hb dX0_countIncrements_43 ?_
    refine lv_ladd hx hb dX0_countIncrements_44 ?_
    refine lv_ladd hx hb dX0_countIncrements_45 ?_
    refine va_put (D := (dC, dI)) (ci := 0) (v := .long (ksu + (((kp.toInt64 * (e1 - kle)) + (ki.toInt64 * e1)) + (kd.toInt64 * (r1 - klr))))) (ty := .long) (C := RX0) (T := TX0) (N := 15) hx hb hts inW_X0 tyX0 tyX0_ok nmX0 hown hK hP hD hS 0 rfl rfl 10 (by decide) (hts _ wd_1_104) (fun _ h9 => h9) rfl (tyX0_ok 10 (by decide)) rfl rfl (Nat.le_of_ble_eq_true rfl) dX0_countIncrements_46 (fun H locs hP hD hS => ?_)
    have hP : va_P (dC, dI) vwCl [zX0 adc kp ki kd klo khi kgu ksh khe ksp kig (ksu + (((kp.toInt64 * (e1 - kle)) + (ki.toInt64 * e1)) + (kd.toInt64 * (r1 - klr)))) adp kle klr kgo] H := hP
    have hD : va_D A [zX0 adc kp ki kd klo khi kgu ksh khe ksp kig (ksu + (((kp.toInt64 * (e1 - kle)) + (ki.toInt64 * e1)) + (kd.toInt64 * (r1 - klr)))) adp kle klr kgo] := hD
    refine lv_goto (tgt := 58) hx hb dX0_countIncrements_49 (by decide) ?_
    have e3 : (f_X0_countIncrements_j1_1 kp ki kd ksu kle klr kgo e1 r1 s1) = (ksu + (((kp.toInt64 * (e1 - kle)) + (ki.toInt64 * e1)) + (kd.toInt64 * (r1 - klr)))) := if_neg h1
    exact J1 _ _ _ (by rw [show (f_X0_countIncrements_j1_1 kp ki kd ksu kle klr kgo e1 r1 s1) = (ksu + (((kp.toInt64 * (e1 - kle)) + (ki.toInt64 * e1)) + (kd.toInt64 * (r1 - klr)))) from if_neg h1]; exact hP) (by rw [show (f_X0_countIncrements_j1_1 kp ki kd ksu kle klr kgo e1 r1 s1) = (ksu + (((kp.toInt64 * (e1 - kle)) + (ki.toInt64 * e1)) + (kd.toInt64 * (r1 - klr)))) from if_neg h1]; exact hD) hS (lv_sub hl [0, 1, 2, 3] rfl)
def f_X0_guardAgainstWindup_j1_1 (klo khi : Int32) (e1 w1 : Int64) : Int32 := if w1 ≤ khi.toInt64 then (if klo.toInt64 ≤ w1 then (0 : Int32) else (if (0 : Int64) ≤ e1 then (0 : Int32) else (1 : Int32))) else (if (0 : Int64) < e1 then (1 : Int32) else (if klo.toInt64 ≤ w1 then (0 : Int32) else (if (0 : Int64) ≤ e1 then (0 : Int32) else (1 : Int32))))
theorem f_X0_guardAgainstWindup_j1_1_z (klo khi : Int32) (e1 w1 : Int64) : narrow .boolean (.int (f_X0_guardAgainstWindup_j1_1 klo khi e1 w1)) = .int (f_X0_guardAgainstWindup_j1_1 klo khi e1 w1) := by
  unfold f_X0_guardAgainstWindup_j1_1
  repeat' split
  all_goals rfl
def f_X0_guardAgainstWindup_j2_1 (ki klo khi : Int32) (kig e1 w1 : Int64) : Int64 := if (f_X0_guardAgainstWindup_j1_1 klo khi e1 w1) = (0 : Int32) then kig else (kig - (ki.toInt64 * e1))
def f_X0_guardAgainstWindup_j3_1 (ki klo khi kgu ksh : Int32) (kig e1 w1 o1 : Int64) : Int64 := if kgu = (1 : Int32) then (f_X0_guardAgainstWindup_j2_1 ki klo khi kig e1 w1) else (if kgu = (2 : Int32) then (kig + (ksh.toInt64 * (o1 - w1))) else kig)
set_option maxHeartbeats 4000000 in
set_option maxRecDepth 100000 in
theorem c_X0_guardAgainstWindup (l : Launch) (dC : Nat → ClassId) (dI : Nat → Nat → Nat) (cI cJ cZ cO : ClassId) (adc : Nat) (kp ki kd klo khi kgu ksh khe : Int32) (ksp kig ksu : Int64) (adp : Nat) (kle klr : Int64) (kgo : Int32) (e1 w1 o1 : Int64) (sz : Nat)  : Met l yX0_guardAgainstWindup (Cond.code yX0_guardAgainstWindup cX0_guardAgainstWindup 8 none :: wAll) ({ frames := 0, cells := 0, slots := 0, locals := 0 }) (va_Pc [.ref adc, .long e1, .long w1, .long o1] (gP (dC, dI) [zX0 adc kp ki kd klo khi kgu ksh khe ksp kig ksu adp kle klr kgo] (tyG cI cJ cZ cO) sz gN)) (va_Qv (fun (_ : Unit) => True) (fun _ t => gB (dC, dI) (va_A [zX0 adc kp ki kd klo khi kgu ksh khe ksp kig ksu adp kle klr kgo] sz) [zX0 adc kp ki kd klo khi kgu ksh khe ksp (f_X0_guardAgainstWindup_j3_1 ki klo khi kgu ksh kig e1 w1 o1) ksu adp kle klr kgo] (tyG cI cJ cZ cO) t) (va_A [zX0 adc kp ki kd klo khi kgu ksh khe ksp kig ksu adp kle klr kgo] sz)) 0 0 (va_A [zX0 adc kp ki kd klo khi kgu ksh khe ksp kig ksu adp kle klr kgo] sz) := by
  refine Met.ofW (cc := cX0_guardAgainstWindup) (maxL := 8) (ret := none) (by decide) rfl ?_
  intro p e s m args below meth c s₁ B hml hv
  obtain ⟨rfl, hsz, hP, hK, hD0, hG⟩ := hv
  have hx := B.exec
  have hb := B.bytes
  have hr := B.returns
  have hts := ht_of B.pre
  have hown : s.vm.findClass RX0 = some m.cls := findClass_of_methodNamed B.named
  have hlocks := B.notSynchronized
  subst hsz
  have hD := hD0.self (sz := s.heap.size)
  generalize hAe : va_A [zX0 adc kp ki kd klo khi kgu ksh khe ksp kig ksu adp kle klr kgo] s.heap.size = A at hD ⊢
  have hA : ∀ q : Nat, s.heap.size ≤ q → A q := fun q h => by rw [← hAe]; exact Or.inr h
  have hS : va_S A s.heap s.heap [] := va_S.rf
  have hP : va_P (dC, dI) vwCl [zX0 adc kp ki kd klo khi kgu ksh khe ksp kig ksu adp kle klr kgo] s.heap := hP
  have hl := lv_entry ([.ref adc, .long e1, .long w1, .long o1]) (n := 8) (Nat.le_of_ble_eq_true rfl)
  rw [lg_entry_eq]
  generalize (lg_sl ([.ref adc, .long e1, .long w1, .long o1]) ++ List.replicate (8 - (lg_sl ([.ref adc, .long e1, .long w1, .long o1])).length) Slot.unset).toArray = ls at hl ⊢
  have hl : lv_has ls 8 [(0, .ref adc), (1, .long e1), (3, .long w1), (5, .long o1)] := hl
  refine hh_name (fun Q hQ => ?_)
  refine lv_aload_n hx hb dX0_guardAgainstWindup_0 rfl (lv_at hl 0 rfl) ?_
  refine va_get (D := (dC, dI)) (ci := 0) (v := .int kgu) (C := RX0) (T := TX0) (N := 15) hx hb hts inW_X0 hown hK hP 0 rfl rfl 5 (by decide) (hts _ wd_1_94) (fun _ h9 => h9) rfl dX0_guardAgainstWindup_1 ?_
  refine lv_iconst (v := 1) hx hb dX0_guardAgainstWindup_4 (by decide) ?_
  have J3 : ∀ (H : Heap) (locs : List Loc) (ls : Array Slot), va_P (dC, dI) vwCl [zX0 adc kp ki kd klo khi kgu ksh khe ksp (f_X0_guardAgainstWindup_j3_1 ki klo khi kgu ksh kig e1 w1 o1) ksu adp kle klr kgo] H → va_D A [zX0 adc kp ki kd klo khi kgu ksh khe ksp (f_X0_guardAgainstWindup_j3_1 ki klo khi kgu ksh kig e1 w1 o1) ksu adp kle klr kgo] → va_S A s.heap H locs → lv_has ls 8 [(0, .ref adc), (1, .long e1), (3, .long w1), (5, .long o1)] → W p l e (headSpec (Cond.code yX0_guardAgainstWindup cX0_guardAgainstWindup 8 none :: wAll) ({ frames := 0, cells := 0, slots := 0, locals := 0 })).room s m ([.ref adc, .long e1, .long w1, .long o1] : List Value).toArray below meth c H locs 0 0 Q (F0 m 98 ls []) := by
    intro H locs ls hP hD hS hl
    exact hh_retv hQ hx hb hr hlocks hP hK hD hS dX0_guardAgainstWindup_98
  refine lv_icmp_ne (tgt := 71) hx hb dX0_guardAgainstWindup_5 (by decide) (fun h1 => ?_) (fun h1 => ?_)
  · skip
    refine lv_aload_n hx hb dX0_guardAgainstWindup_71 rfl (lv_at hl 0 rfl) ?_
    refine va_get (D := (dC, dI)) (ci := 0) (v := .int kgu) (C := RX0) (T := TX0) (N := 15) hx hb hts inW_X0 hown hK hP 0 rfl rfl 5 (by decide) (hts _ wd_1_94) (fun _ h9 => h9) rfl dX0_guardAgainstWindup_72 ?_
    refine lv_iconst (v := 2) hx hb dX0_guardAgainstWindup_75 (by decide) ?_
    refine lv_icmp_ne (tgt := 98) hx hb dX0_guardAgainstWindup_76 (by decide) (fun h2 => ?_) (fun h2 => ?_)
    · skip
      have e10 : (f_X0_guardAgainstWindup_j3_1 ki klo khi kgu ksh kig e1 w1 o1) = kig := (if_neg h1).trans (if_neg h2)
      exact J3 _ _ _ (by rw [show (f_X0_guardAgainstWindup_j3_1 ki klo khi kgu ksh kig e1 w1 o1) = kig from (if_neg h1).trans (if_neg h2)]; exact hP) (by rw [show (f_X0_guardAgainstWindup_j3_1 ki klo khi kgu ksh kig e1 w1 o1) = kig from (if_neg h1).trans (if_neg h2)]; exact hD) hS (lv_sub hl [0, 1, 2, 3] rfl)
    · skip
      refine lv_aload_n hx hb dX0_guardAgainstWindup_79 rfl (lv_at hl 0 rfl) ?_
      refine lv_dup hx hb dX0_guardAgainstWindup_80 rfl ?_
      refine va_get (D := (dC, dI)) (ci := 0) (v := .long kig) (C := RX0) (T := TX0) (N := 15) hx hb hts inW_X0 hown hK hP 0 rfl rfl 9 (by decide) (hts _ wd_1_102) (fun _ h9 => h9) rfl dX0_guardAgainstWindup_81 ?_
      refine lv_aload_n hx hb dX0_guardAgainstWindup_84 rfl (lv_at hl 0 rfl) ?_
      refine va_get (D := (dC, dI)) (ci := 0) (v := .int ksh) (C := RX0) (T := TX0) (N := 15) hx hb hts inW_X0 hown hK hP 0 rfl rfl 6 (by decide) (hts _ wd_1_95) (fun _ h9 => h9) rfl dX0_guardAgainstWindup_85 ?_
      refine lv_i2l hx hb dX0_guardAgainstWindup_88 rfl ?_
      refine lv_lload hx hb dX0_guardAgainstWindup_89 (lv_at hl 3 rfl) ?_
      refine lv_lload_n hx hb dX0_guardAgainstWindup_91 rfl (lv_at hl 2 rfl) ?_
      refine lv_lsub hx hb dX0_guardAgainstWindup_92 ?_
      refine lv_lmul hx hb dX0_guardAgainstWindup_93 ?_
      refine lv_ladd hx hb dX0_guardAgainstWindup_94 ?_
      refine va_put (D := (dC, dI)) (ci := 0) (v := .long (kig + (ksh.toInt64 * (o1 - w1)))) (ty := .long) (C := RX0) (T := TX0) (N := 15) hx hb hts inW_X0 tyX0 tyX0_ok nmX0 hown hK hP hD hS 0 rfl rfl 9 (by decide) (hts _ wd_1_102) (fun _ h9 => h9) rfl (tyX0_ok 9 (by decide)) rfl rfl (Nat.le_of_ble_eq_true rfl) dX0_guardAgainstWindup_95 (fun H locs hP hD hS => ?_)
      have hP : va_P (dC, dI) vwCl [zX0 adc kp ki kd klo khi kgu ksh khe ksp (kig + (ksh.toInt64 * (o1 - w1))) ksu adp kle klr kgo] H := hP
      have hD : va_D A [zX0 adc kp ki kd klo khi kgu ksh khe ksp (kig + (ksh.toInt64 * (o1 - w1))) ksu adp kle klr kgo] := hD
      have e11 : (f_X0_guardAgainstWindup_j3_1 ki klo khi kgu ksh kig e1 w1 o1) = (kig + (ksh.toInt64 * (o1 - w1))) := (if_neg h1).trans (if_pos h2)
      exact J3 _ _ _ (by rw [show (f_X0_guardAgainstWindup_j3_1 ki klo khi kgu ksh kig e1 w1 o1) = (kig + (ksh.toInt64 * (o1 - w1))) from (if_neg h1).trans (if_pos h2)]; exact hP) (by rw [show (f_X0_guardAgainstWindup_j3_1 ki klo khi kgu ksh kig e1 w1 o1) = (kig + (ksh.toInt64 * (o1 - w1))) from (if_neg h1).trans (if_pos h2)]; exact hD) hS (lv_sub hl [0, 1, 2, 3] rfl)
  · skip
    refine lv_lload_n hx hb dX0_guardAgainstWindup_8 rfl (lv_at hl 2 rfl) ?_
    refine lv_aload_n hx hb dX0_guardAgainstWindup_9 rfl (lv_at hl 0 rfl) ?_
    refine va_get (D := (dC, dI)) (ci := 0) (v := .int khi) (C := RX0) (T := TX0) (N := 15) hx hb hts inW_X0 hown hK hP 0 rfl rfl 4 (by decide) (hts _ wd_1_91) (fun _ h9 => h9) rfl dX0_guardAgainstWindup_10 ?_
    refine lv_i2l hx hb dX0_guardAgainstWindup_13 rfl ?_
    have J1 : ∀ (H : Heap) (locs : List Loc) (ls : Array Slot), va_P (dC, dI) vwCl [zX0 adc kp ki kd klo khi kgu ksh khe ksp kig ksu adp kle klr kgo] H → va_D A [zX0 adc kp ki kd klo khi kgu ksh khe ksp kig ksu adp kle klr kgo] → va_S A s.heap H locs → lv_has ls 8 [(0, .ref adc), (1, .long e1), (3, .long w1), (5, .long o1)] → W p l e (headSpec (Cond.code yX0_guardAgainstWindup cX0_guardAgainstWindup 8 none :: wAll) ({ frames := 0, cells := 0, slots := 0, locals := 0 })).room s m ([.ref adc, .long e1, .long w1, .long o1] : List Value).toArray below meth c H locs 0 0 Q (F0 m 45 ls [.int (f_X0_guardAgainstWindup_j1_1 klo khi e1 w1)]) := by
      intro H locs ls hP hD hS hl
      refine lv_istore (lv' := [(7, .int (f_X0_guardAgainstWindup_j1_1 klo khi e1 w1)), (0, .ref adc), (1, .long e1), (3, .long w1), (5, .long o1)]) hx hb dX0_guardAgainstWindup_45 hl (by decide) rfl (fun ls hl => ?_)
      refine lv_iload hx hb dX0_guardAgainstWindup_47 (lv_at hl 0 rfl) ?_
      have J2 : ∀ (H : Heap) (locs : List Loc) (ls : Array Slot), va_P (dC, dI) vwCl [zX0 adc kp ki kd klo khi kgu ksh khe ksp (f_X0_guardAgainstWindup_j2_1 ki klo khi kig e1 w1) ksu adp kle klr kgo] H → va_D A [zX0 adc kp ki kd klo khi kgu ksh khe ksp (f_X0_guardAgainstWindup_j2_1 ki klo khi kig e1 w1) ksu adp kle klr kgo] → va_S A s.heap H locs → lv_has ls 8 [(7, .int (f_X0_guardAgainstWindup_j1_1 klo khi e1 w1)), (0, .ref adc), (1, .long e1), (3, .long w1), (5, .long o1)] → W p l e (headSpec (Cond.code yX0_guardAgainstWindup cX0_guardAgainstWindup 8 none :: wAll) ({ frames := 0, cells := 0, slots := 0, locals := 0 })).room s m ([.ref adc, .long e1, .long w1, .long o1] : List Value).toArray below meth c H locs 0 0 Q (F0 m 68 ls []) := by
        intro H locs ls hP hD hS hl
        refine lv_goto (tgt := 98) hx hb dX0_guardAgainstWindup_68 (by decide) ?_
        have e12 : (f_X0_guardAgainstWindup_j3_1 ki klo khi kgu ksh kig e1 w1 o1) = (f_X0_guardAgainstWindup_j2_1 ki klo khi kig e1 w1) := if_pos h1
        exact J3 _ _ _ (by rw [show (f_X0_guardAgainstWindup_j3_1 ki klo khi kgu ksh kig e1 w1 o1) = (f_X0_guardAgainstWindup_j2_1 ki klo khi kig e1 w1) from if_pos h1]; exact hP) (by rw [show (f_X0_guardAgainstWindup_j3_1 ki klo khi kgu ksh kig e1 w1 o1) = (f_X0_guardAgainstWindup_j2_1 ki klo khi kig e1 w1) from if_pos h1]; exact hD) hS (lv_sub hl [1, 2, 3, 4] rfl)
      refine lv_if_eq (tgt := 68) hx hb dX0_guardAgainstWindup_49 (by decide) (fun h9 => ?_) (fun h9 => ?_)
      · skip
        have e13 : (f_X0_guardAgainstWindup_j2_1 ki klo khi kig e1 w1) = kig := if_pos h9
        exact J2 _ _ _ (by rw [show (f_X0_guardAgainstWindup_j2_1 ki klo khi kig e1 w1) = kig from if_pos h9]; exact hP) (by rw [show (f_X0_guardAgainstWindup_j2_1 ki klo khi kig e1 w1) = kig from if_pos h9]; exact hD) hS (lv_sub hl [0, 1, 2, 3, 4] rfl)
      · skip
        refine lv_aload_n hx hb dX0_guardAgainstWindup_52 rfl (lv_at hl 1 rfl) ?_
        refine lv_dup hx hb dX0_guardAgainstWindup_53 rfl ?_
        refine va_get (D := (dC, dI)) (ci := 0) (v := .long kig) (C := RX0) (T := TX0) (N := 15) hx hb hts inW_X0 hown hK hP 0 rfl rfl 9 (by decide) (hts _ wd_1_102) (fun _ h9 => h9) rfl dX0_guardAgainstWindup_54 ?_
        refine lv_aload_n hx hb dX0_guardAgainstWindup_57 rfl (lv_at hl 1 rfl) ?_
        refine va_get (D := (dC, dI)) (ci := 0) (v := .int ki) (C := RX0) (T := TX0) (N := 15) hx hb hts inW_X0 hown hK hP 0 rfl rfl 1 (by decide) (hts _ wd_1_85) (fun _ h9 => h9) rfl dX0_guardAgainstWindup_58 ?_
        refine lv_i2l hx hb dX0_guardAgainstWindup_61 rfl ?_
        refine lv_lload_n hx hb dX0_guardAgainstWindup_62 rfl (lv_at hl 2 rfl) ?_
        refine lv_lmul hx hb dX0_guardAgainstWindup_63 ?_
        refine lv_lsub hx hb dX0_guardAgainstWindup_64 ?_
        refine va_put (D := (dC, dI)) (ci := 0) (v := .long (kig - (ki.toInt64 * e1))) (ty := .long) (C := RX0) (T := TX0) (N := 15) hx hb hts inW_X0 tyX0 tyX0_ok nmX0 hown hK hP hD hS 0 rfl rfl 9 (by decide) (hts _ wd_1_102) (fun _ h9 => h9) rfl (tyX0_ok 9 (by decide)) rfl rfl (Nat.le_of_ble_eq_true rfl) dX0_guardAgainstWindup_65 (fun H locs hP hD hS => ?_)
        have hP : va_P (dC, dI) vwCl [zX0 adc kp ki kd klo khi kgu ksh khe ksp (kig - (ki.toInt64 * e1)) ksu adp kle klr kgo] H := hP
        have hD : va_D A [zX0 adc kp ki kd klo khi kgu ksh khe ksp (kig - (ki.toInt64 * e1)) ksu adp kle klr kgo] := hD
        have e14 : (f_X0_guardAgainstWindup_j2_1 ki klo khi kig e1 w1) = (kig - (ki.toInt64 * e1)) := if_neg h9
        exact J2 _ _ _ (by rw [show (f_X0_guardAgainstWindup_j2_1 ki klo khi kig e1 w1) = (kig - (ki.toInt64 * e1)) from if_neg h9]; exact hP) (by rw [show (f_X0_guardAgainstWindup_j2_1 ki klo khi kig e1 w1) = (kig - (ki.toInt64 * e1)) from if_neg h9]; exact hD) hS (lv_sub hl [0, 1, 2, 3, 4] rfl)
    refine hh_cle (tgt := 24) hx hb dX0_guardAgainstWindup_14 dX0_guardAgainstWindup_15 (by decide) (fun h3 => ?_) (fun h3 => ?_)
    · skip
      refine lv_lload_n hx hb dX0_guardAgainstWindup_24 rfl (lv_at hl 2 rfl) ?_
      refine lv_aload_n hx hb dX0_guardAgainstWindup_25 rfl (lv_at hl 0 rfl) ?_
      refine va_get (D := (dC, dI)) (ci := 0) (v := .int klo) (C := RX0) (T := TX0) (N := 15) hx hb hts inW_X0 hown hK hP 0 rfl rfl 3 (by decide) (hts _ wd_1_89) (fun _ h9 => h9) rfl dX0_guardAgainstWindup_26 ?_
      refine lv_i2l hx hb dX0_guardAgainstWindup_29 rfl ?_
      refine hh_cge (tgt := 44) hx hb dX0_guardAgainstWindup_30 dX0_guardAgainstWindup_31 (by decide) (fun h4 => ?_) (fun h4 => ?_)
      · skip
        refine lv_iconst (v := 0) hx hb dX0_guardAgainstWindup_44 (by decide) ?_
        have e15 : (f_X0_guardAgainstWindup_j1_1 klo khi e1 w1) = (0 : Int32) := (if_pos h3).trans (if_pos h4)
        refine hh_seti (y := (f_X0_guardAgainstWindup_j1_1 klo khi e1 w1)) ((if_pos h3).trans (if_pos h4)) ?_
        exact J1 _ _ _ (hP) (hD) hS (lv_sub hl [0, 1, 2, 3] rfl)
      · skip
        refine lv_lload_n hx hb dX0_guardAgainstWindup_34 rfl (lv_at hl 1 rfl) ?_
        refine lv_lconst (v := 0) hx hb dX0_guardAgainstWindup_35 (by decide) ?_
        refine hh_cge (tgt := 44) hx hb dX0_guardAgainstWindup_36 dX0_guardAgainstWindup_37 (by decide) (fun h5 => ?_) (fun h5 => ?_)
        · skip
          refine lv_iconst (v := 0) hx hb dX0_guardAgainstWindup_44 (by decide) ?_
          have e16 : (f_X0_guardAgainstWindup_j1_1 klo khi e1 w1) = (0 : Int32) := (if_pos h3).trans ((if_neg h4).trans (if_pos h5))
          refine hh_seti (y := (f_X0_guardAgainstWindup_j1_1 klo khi e1 w1)) ((if_pos h3).trans ((if_neg h4).trans (if_pos h5))) ?_
          exact J1 _ _ _ (hP) (hD) hS (lv_sub hl [0, 1, 2, 3] rfl)
        · skip
          refine lv_iconst (v := 1) hx hb dX0_guardAgainstWindup_40 (by decide) ?_
          refine lv_goto (tgt := 45) hx hb dX0_guardAgainstWindup_41 (by decide) ?_
          have e17 : (f_X0_guardAgainstWindup_j1_1 klo khi e1 w1) = (1 : Int32) := (if_pos h3).trans ((if_neg h4).trans (if_neg h5))
          refine hh_seti (y := (f_X0_guardAgainstWindup_j1_1 klo khi e1 w1)) ((if_pos h3).trans ((if_neg h4).trans (if_neg h5))) ?_
          exact J1 _ _ _ (hP) (hD) hS (lv_sub hl [0, 1, 2, 3] rfl)
    · skip
      refine lv_lload_n hx hb dX0_guardAgainstWindup_18 rfl (lv_at hl 1 rfl) ?_
      refine lv_lconst (v := 0) hx hb dX0_guardAgainstWindup_19 (by decide) ?_
      refine hh_cgt (tgt := 40) hx hb dX0_guardAgainstWindup_20 dX0_guardAgainstWindup_21 (by decide) (fun h6 => ?_) (fun h6 => ?_)
      · skip
        refine lv_iconst (v := 1) hx hb dX0_guardAgainstWindup_40 (by decide) ?_
        refine lv_goto (tgt := 45) hx hb dX0_guardAgainstWindup_41 (by decide) ?_
        have e18 : (f_X0_guardAgainstWindup_j1_1 klo khi e1 w1) = (1 : Int32) := (if_neg h3).trans (if_pos h6)
        refine hh_seti (y := (f_X0_guardAgainstWindup_j1_1 klo khi e1 w1)) ((if_neg h3).trans (if_pos h6)) ?_
        exact J1 _ _ _ (hP) (hD) hS (lv_sub hl [0, 1, 2, 3] rfl)
      · skip
        refine lv_lload_n hx hb dX0_guardAgainstWindup_24 rfl (lv_at hl 2 rfl) ?_
        refine lv_aload_n hx hb dX0_guardAgainstWindup_25 rfl (lv_at hl 0 rfl) ?_
        refine va_get (D := (dC, dI)) (ci := 0) (v := .int klo) (C := RX0) (T := TX0) (N := 15) hx hb hts inW_X0 hown hK hP 0 rfl rfl 3 (by decide) (hts _ wd_1_89) (fun _ h9 => h9) rfl dX0_guardAgainstWindup_26 ?_
        refine lv_i2l hx hb dX0_guardAgainstWindup_29 rfl ?_
        refine hh_cge (tgt := 44) hx hb dX0_guardAgainstWindup_30 dX0_guardAgainstWindup_31 (by decide) (fun h7 => ?_) (fun h7 => ?_)
        · skip
          refine lv_iconst (v := 0) hx hb dX0_guardAgainstWindup_44 (by decide) ?_
          have e19 : (f_X0_guardAgainstWindup_j1_1 klo khi e1 w1) = (0 : Int32) := (if_neg h3).trans ((if_neg h6).trans (if_pos h7))
          refine hh_seti (y := (f_X0_guardAgainstWindup_j1_1 klo khi e1 w1)) ((if_neg h3).trans ((if_neg h6).trans (if_pos h7))) ?_
          exact J1 _ _ _ (hP) (hD) hS (lv_sub hl [0, 1, 2, 3] rfl)
        · skip
          refine lv_lload_n hx hb dX0_guardAgainstWindup_34 rfl (lv_at hl 1 rfl) ?_
          refine lv_lconst (v := 0) hx hb dX0_guardAgainstWindup_35 (by decide) ?_
          refine hh_cge (tgt := 44) hx hb dX0_guardAgainstWindup_36 dX0_guardAgainstWindup_37 (by decide) (fun h8 => ?_) (fun h8 => ?_)
          · skip
            refine lv_iconst (v := 0) hx hb dX0_guardAgainstWindup_44 (by decide) ?_
            have e20 : (f_X0_guardAgainstWindup_j1_1 klo khi e1 w1) = (0 : Int32) := (if_neg h3).trans ((if_neg h6).trans ((if_neg h7).trans (if_pos h8)))
            refine hh_seti (y := (f_X0_guardAgainstWindup_j1_1 klo khi e1 w1)) ((if_neg h3).trans ((if_neg h6).trans ((if_neg h7).trans (if_pos h8)))) ?_
            exact J1 _ _ _ (hP) (hD) hS (lv_sub hl [0, 1, 2, 3] rfl)
          · skip
            refine lv_iconst (v := 1) hx hb dX0_guardAgainstWindup_40 (by decide) ?_
            refine lv_goto (tgt := 45) hx hb dX0_guardAgainstWindup_41 (by decide) ?_
            have e21 : (f_X0_guardAgainstWindup_j1_1 klo khi e1 w1) = (1 : Int32) := (if_neg h3).trans ((if_neg h6).trans ((if_neg h7).trans (if_neg h8)))
            refine hh_seti (y := (f_X0_guardAgainstWindup_j1_1 klo khi e1 w1)) ((if_neg h3).trans ((if_neg h6).trans ((if_neg h7).trans (if_neg h8)))) ?_
            exact J1 _ _ _ (hP) (hD) hS (lv_sub hl [0, 1, 2, 3] rfl)
def f_X0_automaticSample_j1_1 (kp ki kd klo khi khe : Int32) (ksp kig pme pmb : Int64) : Int32 := if (f_X0_withinLimits_r klo khi (f_J9_floorDiv_f86c9_r (((kp.toInt64 * (f_X0_error_r ksp pme)) + (kig + (ki.toInt64 * (f_X0_error_r ksp pme)))) + (kd.toInt64 * (f_X0_rate_r pme pmb))) (1000 : Int64))) = (f_J9_floorDiv_f86c9_r (((kp.toInt64 * (f_X0_error_r ksp pme)) + (kig + (ki.toInt64 * (f_X0_error_r ksp pme)))) + (kd.toInt64 * (f_X0_rate_r pme pmb))) (1000 : Int64)) then khe else (khe + (1 : Int32))
def f_X0_automaticSample_kig (kp ki kd klo khi kgu ksh : Int32) (ksp kig pme pmb : Int64) : Int64 := (f_X0_guardAgainstWindup_j3_1 ki klo khi kgu ksh (kig + (ki.toInt64 * (f_X0_error_r ksp pme))) (f_X0_error_r ksp pme) (f_J9_floorDiv_f86c9_r (((kp.toInt64 * (f_X0_error_r ksp pme)) + (kig + (ki.toInt64 * (f_X0_error_r ksp pme)))) + (kd.toInt64 * (f_X0_rate_r pme pmb))) (1000 : Int64)) (f_X0_withinLimits_r klo khi (f_J9_floorDiv_f86c9_r (((kp.toInt64 * (f_X0_error_r ksp pme)) + (kig + (ki.toInt64 * (f_X0_error_r ksp pme)))) + (kd.toInt64 * (f_X0_rate_r pme pmb))) (1000 : Int64))))
def f_X0_automaticSample_ksu (kp ki kd : Int32) (ksp kig ksu kle klr : Int64) (kgo : Int32) (pme pmb : Int64) : Int64 := (f_X0_countIncrements_j1_1 kp ki kd ksu kle klr kgo (f_X0_error_r ksp pme) (f_X0_rate_r pme pmb) (((kp.toInt64 * (f_X0_error_r ksp pme)) + (kig + (ki.toInt64 * (f_X0_error_r ksp pme)))) + (kd.toInt64 * (f_X0_rate_r pme pmb))))
def f_X0_automaticSample_r (kp ki kd klo khi : Int32) (ksp kig pme pmb : Int64) : Int64 := (f_X0_withinLimits_r klo khi (f_J9_floorDiv_f86c9_r (((kp.toInt64 * (f_X0_error_r ksp pme)) + (kig + (ki.toInt64 * (f_X0_error_r ksp pme)))) + (kd.toInt64 * (f_X0_rate_r pme pmb))) (1000 : Int64)))
set_option maxHeartbeats 4000000 in
set_option maxRecDepth 100000 in
theorem c_X0_automaticSample (l : Launch) (dC : Nat → ClassId) (dI : Nat → Nat → Nat) (cI cJ cZ cO : ClassId) (adc : Nat) (kp ki kd klo khi kgu ksh khe : Int32) (ksp kig ksu : Int64) (adp : Nat) (kle klr : Int64) (kgo pa1 pa2 pb pdt pld : Int32) (pme pmb : Int64) (ado : Nat) (plt : Int32) (sz : Nat)  : Met l yX0_automaticSample (Cond.code yX0_automaticSample cX0_automaticSample 11 (some .long) :: wAll) ({ frames := 3, cells := 0, slots := 0, locals := 64 }) (va_Pc [.ref adc] (gP (dC, dI) [zX0 adc kp ki kd klo khi kgu ksh khe ksp kig ksu adp kle klr kgo, zX2 adp pa1 pa2 pb pdt pld pme pmb ado plt] (tyG cI cJ cZ cO) sz gN)) (va_Ql (fun r (_ : Unit) => r = (f_X0_automaticSample_r kp ki kd klo khi ksp kig pme pmb)) (fun _ t => gB (dC, dI) (va_A [zX0 adc kp ki kd klo khi kgu ksh khe ksp kig ksu adp kle klr kgo, zX2 adp pa1 pa2 pb pdt pld pme pmb ado plt] sz) [zX0 adc kp ki kd klo khi kgu ksh (f_X0_automaticSample_j1_1 kp ki kd klo khi khe ksp kig pme pmb) ksp (f_X0_automaticSample_kig kp ki kd klo khi kgu ksh ksp kig pme pmb) (f_X0_automaticSample_ksu kp ki kd ksp kig ksu kle klr kgo pme pmb) adp (f_X0_error_r ksp pme) (f_X0_rate_r pme pmb) (1 : Int32), zX2 adp pa1 pa2 pb pdt pld pme pmb ado plt] (tyG cI cJ cZ cO) t) (va_A [zX0 adc kp ki kd klo khi kgu ksh khe ksp kig ksu adp kle klr kgo, zX2 adp pa1 pa2 pb pdt pld pme pmb ado plt] sz)) 0 0 (va_A [zX0 adc kp ki kd klo khi kgu ksh khe ksp kig ksu adp kle klr kgo, zX2 adp pa1 pa2 pb pdt pld pme pmb ado plt] sz) := by
  refine Met.ofW (cc := cX0_automaticSample) (maxL := 11) (ret := (some .long)) (by decide) rfl ?_
  intro p e s m args below meth c s₁ B hml hv
  obtain ⟨rfl, hsz, hP, hK, hD0, hG⟩ := hv
  have hx := B.exec
  have hb := B.bytes
  have hr := B.returns
  have hts := ht_of B.pre
  have hown : s.vm.findClass RX0 = some m.cls := findClass_of_methodNamed B.named
  have hlocks := B.notSynchronized
  subst hsz
  have hD := hD0.self (sz := s.heap.size)
  generalize hAe : va_A [zX0 adc kp ki kd klo khi kgu ksh khe ksp kig ksu adp kle klr kgo, zX2 adp pa1 pa2 pb pdt pld pme pmb ado plt] s.heap.size = A at hD ⊢
  have hA : ∀ q : Nat, s.heap.size ≤ q → A q := fun q h => by rw [← hAe]; exact Or.inr h
  have hS : va_S A s.heap s.heap [] := va_S.rf
  have hP : va_P (dC, dI) vwCl [zX0 adc kp ki kd klo khi kgu ksh khe ksp kig ksu adp kle klr kgo, zX2 adp pa1 pa2 pb pdt pld pme pmb ado plt] s.heap := hP
  have hl := lv_entry ([.ref adc]) (n := 11) (Nat.le_of_ble_eq_true rfl)
  rw [lg_entry_eq]
  generalize (lg_sl ([.ref adc]) ++ List.replicate (11 - (lg_sl ([.ref adc])).length) Slot.unset).toArray = ls at hl ⊢
  have hl : lv_has ls 11 [(0, .ref adc)] := hl
  refine hh_name (fun Q hQ => ?_)
  refine lv_aload_n hx hb dX0_automaticSample_0 rfl (lv_at hl 0 rfl) ?_
  refine hh_calll (w2 := [zX0 adc kp ki kd klo khi kgu ksh khe ksp kig ksu adp kle klr kgo, zX2 adp pa1 pa2 pb pdt pld pme pmb ado plt]) (va_runV (As := []) (rest := []) ⟨hx, hb, hml, hown, hts⟩ (c_X0_error l dC dI cI cJ cZ cO adc kp ki kd klo khi kgu ksh khe ksp kig ksu adp kle klr kgo pa1 pa2 pb pdt pld pme pmb ado plt _) (cwV 0 hts (gd_V wd_2_196 wd_2_197 wd_2_198 wd_1_3 wd_2_199) rfl rfl rfl (by decide +kernel) ⟨Nat.le_of_ble_eq_true rfl, Nat.le_of_ble_eq_true rfl⟩) (hh_pV (ci := 0) (q := (RX0, TX0, 15)) (q0 := 0) rfl rfl gN_c (fun U _ hW => gN_w hW hG) hK hP hD [0, 1] rfl rfl) rfl rfl hl.1 rfl (lv_room (Nat.le_of_ble_eq_true rfl)) dX0_automaticSample_1 ⟨Nat.le_of_ble_eq_true rfl, Nat.le_of_ble_eq_true rfl⟩) hP hD hS hA [0, 1] [] [0, 1] rfl rfl rfl (by decide) rfl rfl (fun H locs hP hD hS => ?_)
  refine lv_lstore_n (lv' := [(1, .long (f_X0_error_r ksp pme)), (0, .ref adc)]) hx hb dX0_automaticSample_4 rfl hl (by decide) rfl (fun ls hl => ?_)
  refine lv_aload_n hx hb dX0_automaticSample_5 rfl (lv_at hl 1 rfl) ?_
  refine hh_calll (w2 := [zX0 adc kp ki kd klo khi kgu ksh khe ksp kig ksu adp kle klr kgo, zX2 adp pa1 pa2 pb pdt pld pme pmb ado plt]) (va_runV (As := []) (rest := []) ⟨hx, hb, hml, hown, hts⟩ (c_X0_rate l dC dI cI cJ cZ cO adc kp ki kd klo khi kgu ksh khe ksp kig ksu adp kle klr kgo pa1 pa2 pb pdt pld pme pmb ado plt _) (cwV 0 hts (gd_V wd_2_200 wd_2_202 wd_p_2 wd_1_3 wd_2_203) rfl rfl rfl (by decide +kernel) ⟨Nat.le_of_ble_eq_true rfl, Nat.le_of_ble_eq_true rfl⟩) (hh_pV (ci := 0) (q := (RX0, TX0, 15)) (q0 := 0) rfl rfl gN_c (fun U _ hW => gN_w hW hG) hK hP hD [0, 1] rfl rfl) rfl rfl hl.1 rfl (lv_room (Nat.le_of_ble_eq_true rfl)) dX0_automaticSample_6 ⟨Nat.le_of_ble_eq_true rfl, Nat.le_of_ble_eq_true rfl⟩) hP hD hS hA [0, 1] [] [0, 1] rfl rfl rfl (by decide) rfl rfl (fun H locs hP hD hS => ?_)
  refine lv_lstore_n (lv' := [(3, .long (f_X0_rate_r pme pmb)), (1, .long (f_X0_error_r ksp pme)), (0, .ref adc)]) hx hb dX0_automaticSample_9 rfl hl (by decide) rfl (fun ls hl => ?_)
  refine lv_aload_n hx hb dX0_automaticSample_10 rfl (lv_at hl 2 rfl) ?_
  refine lv_dup hx hb dX0_automaticSample_11 rfl ?_
  refine va_get (D := (dC, dI)) (ci := 0) (v := .long kig) (C := RX0) (T := TX0) (N := 15) hx hb hts inW_X0 hown hK hP 0 rfl rfl 9 (by decide) (hts _ wd_1_102) (fun _ h9 => h9) rfl dX0_automaticSample_12 ?_
  refine lv_aload_n hx hb dX0_automaticSample_15 rfl (lv_at hl 2 rfl) ?_
  refine va_get (D := (dC, dI)) (ci := 0) (v := .int ki) (C := RX0) (T := TX0) (N := 15) hx hb hts inW_X0 hown hK hP 0 rfl rfl 1 (by decide) (hts _ wd_1_85) (fun _ h9 => h9) rfl dX0_automaticSample_16 ?_
  refine lv_i2l hx hb dX0_automaticSample_19 rfl ?_
  refine lv_lload_n hx hb dX0_automaticSample_20 rfl (lv_at hl 1 rfl) ?_
  refine lv_lmul hx hb dX0_automaticSample_21 ?_
  refine lv_ladd hx hb dX0_automaticSample_22 ?_
  refine va_put (D := (dC, dI)) (ci := 0) (v := .long (kig + (ki.toInt64 * (f_X0_error_r ksp pme)))) (ty := .long) (C := RX0) (T := TX0) (N := 15) hx hb hts inW_X0 tyX0 tyX0_ok nmX0 hown hK hP hD hS 0 rfl rfl 9 (by decide) (hts _ wd_1_102) (fun _ h9 => h9) rfl (tyX0_ok 9 (by decide)) rfl rfl (Nat.le_of_ble_eq_true rfl) dX0_automaticSample_23 (fun H locs hP hD hS => ?_)
  have hP : va_P (dC, dI) vwCl [zX0 adc kp ki kd klo khi kgu ksh khe ksp (kig + (ki.toInt64 * (f_X0_error_r ksp pme))) ksu adp kle klr kgo, zX2 adp pa1 pa2 pb pdt pld pme pmb ado plt] H := hP
  have hD : va_D A [zX0 adc kp ki kd klo khi kgu ksh khe ksp (kig + (ki.toInt64 * (f_X0_error_r ksp pme))) ksu adp kle klr kgo, zX2 adp pa1 pa2 pb pdt pld pme pmb ado plt] := hD
  refine lv_aload_n hx hb dX0_automaticSample_26 rfl (lv_at hl 2 rfl) ?_
  refine va_get (D := (dC, dI)) (ci := 0) (v := .int kp) (C := RX0) (T := TX0) (N := 15) hx hb hts inW_X0 hown hK hP 0 rfl rfl 0 (by decide) (hts _ wd_1_83) (fun _ h9 => h9) rfl dX0_automaticSample_27 ?_
  refine lv_i2l hx hb dX0_automaticSample_30 rfl ?_
  refine lv_lload_n hx hb dX0_automaticSample_31 rfl (lv_at hl 1 rfl) ?_
  refine lv_lmul hx hb dX0_automaticSample_32 ?_
  refine lv_aload_n hx hb dX0_automaticSample_33 rfl (lv_at hl 2 rfl) ?_
  refine va_get (D := (dC, dI)) (ci := 0) (v := .long (kig + (ki.toInt64 * (f_X0_error_r ksp pme)))) (C := RX0) (T := TX0) (N := 15) hx hb hts inW_X0 hown hK hP 0 rfl rfl 9 (by decide) (hts _ wd_1_102) (fun _ h9 => h9) rfl dX0_automaticSample_34 ?_
  refine lv_ladd hx hb dX0_automaticSample_37 ?_
  refine lv_aload_n hx hb dX0_automaticSample_38 rfl (lv_at hl 2 rfl) ?_
  refine va_get (D := (dC, dI)) (ci := 0) (v := .int kd) (C := RX0) (T := TX0) (N := 15) hx hb hts inW_X0 hown hK hP 0 rfl rfl 2 (by decide) (hts _ wd_1_87) (fun _ h9 => h9) rfl dX0_automaticSample_39 ?_
  refine lv_i2l hx hb dX0_automaticSample_42 rfl ?_
  refine lv_lload_n hx hb dX0_automaticSample_43 rfl (lv_at hl 0 rfl) ?_
  refine lv_lmul hx hb dX0_automaticSample_44 ?_
  refine lv_ladd hx hb dX0_automaticSample_45 ?_
  refine lv_lstore (lv' := [(5, .long (((kp.toInt64 * (f_X0_error_r ksp pme)) + (kig + (ki.toInt64 * (f_X0_error_r ksp pme)))) + (kd.toInt64 * (f_X0_rate_r pme pmb)))), (3, .long (f_X0_rate_r pme pmb)), (1, .long (f_X0_error_r ksp pme)), (0, .ref adc)]) hx hb dX0_automaticSample_46 hl (by decide) rfl (fun ls hl => ?_)
  refine lv_aload_n hx hb dX0_automaticSample_48 rfl (lv_at hl 3 rfl) ?_
  refine lv_lload_n hx hb dX0_automaticSample_49 rfl (lv_at hl 2 rfl) ?_
  refine lv_lload_n hx hb dX0_automaticSample_50 rfl (lv_at hl 1 rfl) ?_
  refine lv_lload hx hb dX0_automaticSample_51 (lv_at hl 0 rfl) ?_
  refine hh_callv (w2 := [zX0 adc kp ki kd klo khi kgu ksh khe ksp (kig + (ki.toInt64 * (f_X0_error_r ksp pme))) (f_X0_countIncrements_j1_1 kp ki kd ksu kle klr kgo (f_X0_error_r ksp pme) (f_X0_rate_r pme pmb) (((kp.toInt64 * (f_X0_error_r ksp pme)) + (kig + (ki.toInt64 * (f_X0_error_r ksp pme)))) + (kd.toInt64 * (f_X0_rate_r pme pmb)))) adp (f_X0_error_r ksp pme) (f_X0_rate_r pme pmb) (1 : Int32), zX2 adp pa1 pa2 pb pdt pld pme pmb ado plt]) (va_runV (As := [.long (f_X0_error_r ksp pme), .long (f_X0_rate_r pme pmb), .long (((kp.toInt64 * (f_X0_error_r ksp pme)) + (kig + (ki.toInt64 * (f_X0_error_r ksp pme)))) + (kd.toInt64 * (f_X0_rate_r pme pmb)))]) (rest := []) ⟨hx, hb, hml, hown, hts⟩ (c_X0_countIncrements l dC dI cI cJ cZ cO adc kp ki kd klo khi kgu ksh khe ksp (kig + (ki.toInt64 * (f_X0_error_r ksp pme))) ksu adp kle klr kgo (f_X0_error_r ksp pme) (f_X0_rate_r pme pmb) (((kp.toInt64 * (f_X0_error_r ksp pme)) + (kig + (ki.toInt64 * (f_X0_error_r ksp pme)))) + (kd.toInt64 * (f_X0_rate_r pme pmb))) _) (cwV 3 hts (gd_V wd_3_157 wd_3_159 wd_p_8 wd_1_3 wd_3_160) rfl rfl rfl (by decide +kernel) ⟨Nat.le_of_ble_eq_true rfl, Nat.le_of_ble_eq_true rfl⟩) (hh_pV (ci := 0) (q := (RX0, TX0, 15)) (q0 := 0) rfl rfl gN_c (fun U _ hW => gN_w hW hG) hK hP hD [0] rfl rfl) rfl rfl hl.1 rfl (lv_room (Nat.le_of_ble_eq_true rfl)) dX0_automaticSample_53 ⟨Nat.le_of_ble_eq_true rfl, Nat.le_of_ble_eq_true rfl⟩) hP hD hS hA [0] [1] [1, 0] rfl rfl rfl (by decide) rfl rfl (fun H locs hP hD hS => ?_)
  refine lv_lload hx hb dX0_automaticSample_56 (lv_at hl 0 rfl) ?_
  refine lv_ldc2 (v := 1000) hx hb hown (hts _ wd_3_33) dX0_automaticSample_58 ?_
  refine hh_calll (w2 := [zX0 adc kp ki kd klo khi kgu ksh khe ksp (kig + (ki.toInt64 * (f_X0_error_r ksp pme))) (f_X0_countIncrements_j1_1 kp ki kd ksu kle klr kgo (f_X0_error_r ksp pme) (f_X0_rate_r pme pmb) (((kp.toInt64 * (f_X0_error_r ksp pme)) + (kig + (ki.toInt64 * (f_X0_error_r ksp pme)))) + (kd.toInt64 * (f_X0_rate_r pme pmb)))) adp (f_X0_error_r ksp pme) (f_X0_rate_r pme pmb) (1 : Int32), zX2 adp pa1 pa2 pb pdt pld pme pmb ado plt]) (va_runS (As := [.long (((kp.toInt64 * (f_X0_error_r ksp pme)) + (kig + (ki.toInt64 * (f_X0_error_r ksp pme)))) + (kd.toInt64 * (f_X0_rate_r pme pmb))), .long (1000 : Int64)]) (rest := []) ⟨hx, hb, hml, hown, hts⟩ (c_J9_floorDiv_f86c9 l dC dI cI cJ cZ cO (((kp.toInt64 * (f_X0_error_r ksp pme)) + (kig + (ki.toInt64 * (f_X0_error_r ksp pme)))) + (kd.toInt64 * (f_X0_rate_r pme pmb))) (1000 : Int64) _ (by decide)) (va_cwS 2 hts (gd_S wd_3_161 wd_3_142 wd_1_13 wd_3_143) rfl rfl rfl (by decide +kernel) ⟨Nat.le_of_ble_eq_true rfl, Nat.le_of_ble_eq_true rfl⟩) (hh_pS gU_c (fun _ _ _ => trivial) hK hP hD [] rfl rfl) rfl rfl hl.1 rfl (lv_room (Nat.le_of_ble_eq_true rfl)) dX0_automaticSample_61 ⟨Nat.le_of_ble_eq_true rfl, Nat.le_of_ble_eq_true rfl⟩) hP hD hS hA [] [0, 1] [0, 1] rfl rfl rfl (by decide) rfl rfl (fun H locs hP hD hS => ?_)
  refine lv_lstore (lv' := [(7, .long (f_J9_floorDiv_f86c9_r (((kp.toInt64 * (f_X0_error_r ksp pme)) + (kig + (ki.toInt64 * (f_X0_error_r ksp pme)))) + (kd.toInt64 * (f_X0_rate_r pme pmb))) (1000 : Int64))), (5, .long (((kp.toInt64 * (f_X0_error_r ksp pme)) + (kig + (ki.toInt64 * (f_X0_error_r ksp pme)))) + (kd.toInt64 * (f_X0_rate_r pme pmb)))), (3, .long (f_X0_rate_r pme pmb)), (1, .long (f_X0_error_r ksp pme)), (0, .ref adc)]) hx hb dX0_automaticSample_64 hl (by decide) rfl (fun ls hl => ?_)
  refine lv_aload_n hx hb dX0_automaticSample_66 rfl (lv_at hl 4 rfl) ?_
  refine lv_lload hx hb dX0_automaticSample_67 (lv_at hl 0 rfl) ?_
  refine hh_calll (w2 := [zX0 adc kp ki kd klo khi kgu ksh khe ksp (kig + (ki.toInt64 * (f_X0_error_r ksp pme))) (f_X0_countIncrements_j1_1 kp ki kd ksu kle klr kgo (f_X0_error_r ksp pme) (f_X0_rate_r pme pmb) (((kp.toInt64 * (f_X0_error_r ksp pme)) + (kig + (ki.toInt64 * (f_X0_error_r ksp pme)))) + (kd.toInt64 * (f_X0_rate_r pme pmb)))) adp (f_X0_error_r ksp pme) (f_X0_rate_r pme pmb) (1 : Int32), zX2 adp pa1 pa2 pb pdt pld pme pmb ado plt]) (va_runV (As := [.long (f_J9_floorDiv_f86c9_r (((kp.toInt64 * (f_X0_error_r ksp pme)) + (kig + (ki.toInt64 * (f_X0_error_r ksp pme)))) + (kd.toInt64 * (f_X0_rate_r pme pmb))) (1000 : Int64))]) (rest := []) ⟨hx, hb, hml, hown, hts⟩ (c_X0_withinLimits l dC dI cI cJ cZ cO adc kp ki kd klo khi kgu ksh khe ksp (kig + (ki.toInt64 * (f_X0_error_r ksp pme))) (f_X0_countIncrements_j1_1 kp ki kd ksu kle klr kgo (f_X0_error_r ksp pme) (f_X0_rate_r pme pmb) (((kp.toInt64 * (f_X0_error_r ksp pme)) + (kig + (ki.toInt64 * (f_X0_error_r ksp pme)))) + (kd.toInt64 * (f_X0_rate_r pme pmb)))) adp (f_X0_error_r ksp pme) (f_X0_rate_r pme pmb) (1 : Int32) (f_J9_floorDiv_f86c9_r (((kp.toInt64 * (f_X0_error_r ksp pme)) + (kig + (ki.toInt64 * (f_X0_error_r ksp pme)))) + (kd.toInt64 * (f_X0_rate_r pme pmb))) (1000 : Int64)) _) (cwV 1 hts (gd_V wd_3_162 wd_3_83 wd_3_84 wd_1_3 wd_3_85) rfl rfl rfl (by decide +kernel) ⟨Nat.le_of_ble_eq_true rfl, Nat.le_of_ble_eq_true rfl⟩) (hh_pV (ci := 0) (q := (RX0, TX0, 15)) (q0 := 0) rfl rfl gN_c (fun U _ hW => gN_w hW hG) hK hP hD [0] rfl rfl) rfl rfl hl.1 rfl (lv_room (Nat.le_of_ble_eq_true rfl)) dX0_automaticSample_69 ⟨Nat.le_of_ble_eq_true rfl, Nat.le_of_ble_eq_true rfl⟩) hP hD hS hA [0] [1] [1, 0] rfl rfl rfl (by decide) rfl rfl (fun H locs hP hD hS => ?_)
  refine lv_lstore (lv' := [(9, .long (f_X0_withinLimits_r klo khi (f_J9_floorDiv_f86c9_r (((kp.toInt64 * (f_X0_error_r ksp pme)) + (kig + (ki.toInt64 * (f_X0_error_r ksp pme)))) + (kd.toInt64 * (f_X0_rate_r pme pmb))) (1000 : Int64)))), (7, .long (f_J9_floorDiv_f86c9_r (((kp.toInt64 * (f_X0_error_r ksp pme)) + (kig + (ki.toInt64 * (f_X0_error_r ksp pme)))) + (kd.toInt64 * (f_X0_rate_r pme pmb))) (1000 : Int64))), (5, .long (((kp.toInt64 * (f_X0_error_r ksp pme)) + (kig + (ki.toInt64 * (f_X0_error_r ksp pme)))) + (kd.toInt64 * (f_X0_rate_r pme pmb)))), (3, .long (f_X0_rate_r pme pmb)), (1, .long (f_X0_error_r ksp pme)), (0, .ref adc)]) hx hb dX0_automaticSample_72 hl (by decide) rfl (fun ls hl => ?_)
  refine lv_lload hx hb dX0_automaticSample_74 (lv_at hl 0 rfl) ?_
  refine lv_lload hx hb dX0_automaticSample_76 (lv_at hl 1 rfl) ?_
  have J1 : ∀ (H : Heap) (locs : List Loc) (ls : Array Slot), va_P (dC, dI) vwCl [zX0 adc kp ki kd klo khi kgu ksh (f_X0_automaticSample_j1_1 kp ki kd klo khi khe ksp kig pme pmb) ksp (kig + (ki.toInt64 * (f_X0_error_r ksp pme))) (f_X0_countIncrements_j1_1 kp ki kd ksu kle klr kgo (f_X0_error_r ksp pme) (f_X0_rate_r pme pmb) (((kp.toInt64 * (f_X0_error_r ksp pme)) + (kig + (ki.toInt64 * (f_X0_error_r ksp pme)))) + (kd.toInt64 * (f_X0_rate_r pme pmb)))) adp (f_X0_error_r ksp pme) (f_X0_rate_r pme pmb) (1 : Int32), zX2 adp pa1 pa2 pb pdt pld pme pmb ado plt] H → va_D A [zX0 adc kp ki kd klo khi kgu ksh (f_X0_automaticSample_j1_1 kp ki kd klo khi khe ksp kig pme pmb) ksp (kig + (ki.toInt64 * (f_X0_error_r ksp pme))) (f_X0_countIncrements_j1_1 kp ki kd ksu kle klr kgo (f_X0_error_r ksp pme) (f_X0_rate_r pme pmb) (((kp.toInt64 * (f_X0_error_r ksp pme)) + (kig + (ki.toInt64 * (f_X0_error_r ksp pme)))) + (kd.toInt64 * (f_X0_rate_r pme pmb)))) adp (f_X0_error_r ksp pme) (f_X0_rate_r pme pmb) (1 : Int32), zX2 adp pa1 pa2 pb pdt pld pme pmb ado plt] → va_S A s.heap H locs → lv_has ls 11 [(9, .long (f_X0_withinLimits_r klo khi (f_J9_floorDiv_f86c9_r (((kp.toInt64 * (f_X0_error_r ksp pme)) + (kig + (ki.toInt64 * (f_X0_error_r ksp pme)))) + (kd.toInt64 * (f_X0_rate_r pme pmb))) (1000 : Int64)))), (7, .long (f_J9_floorDiv_f86c9_r (((kp.toInt64 * (f_X0_error_r ksp pme)) + (kig + (ki.toInt64 * (f_X0_error_r ksp pme)))) + (kd.toInt64 * (f_X0_rate_r pme pmb))) (1000 : Int64))), (5, .long (((kp.toInt64 * (f_X0_error_r ksp pme)) + (kig + (ki.toInt64 * (f_X0_error_r ksp pme)))) + (kd.toInt64 * (f_X0_rate_r pme pmb)))), (3, .long (f_X0_rate_r pme pmb)), (1, .long (f_X0_error_r ksp pme)), (0, .ref adc)] → W p l e (headSpec (Cond.code yX0_automaticSample cX0_automaticSample 11 (some .long) :: wAll) ({ frames := 3, cells := 0, slots := 0, locals := 64 })).room s m ([.ref adc] : List Value).toArray below meth c H locs 0 0 Q (F0 m 92 ls []) := by
    intro H locs ls hP hD hS hl
    refine lv_aload_n hx hb dX0_automaticSample_92 rfl (lv_at hl 5 rfl) ?_
    refine lv_lload_n hx hb dX0_automaticSample_93 rfl (lv_at hl 4 rfl) ?_
    refine lv_lload hx hb dX0_automaticSample_94 (lv_at hl 1 rfl) ?_
    refine lv_lload hx hb dX0_automaticSample_96 (lv_at hl 0 rfl) ?_
    refine hh_callv (w2 := [zX0 adc kp ki kd klo khi kgu ksh (f_X0_automaticSample_j1_1 kp ki kd klo khi khe ksp kig pme pmb) ksp (f_X0_guardAgainstWindup_j3_1 ki klo khi kgu ksh (kig + (ki.toInt64 * (f_X0_error_r ksp pme))) (f_X0_error_r ksp pme) (f_J9_floorDiv_f86c9_r (((kp.toInt64 * (f_X0_error_r ksp pme)) + (kig + (ki.toInt64 * (f_X0_error_r ksp pme)))) + (kd.toInt64 * (f_X0_rate_r pme pmb))) (1000 : Int64)) (f_X0_withinLimits_r klo khi (f_J9_floorDiv_f86c9_r (((kp.toInt64 * (f_X0_error_r ksp pme)) + (kig + (ki.toInt64 * (f_X0_error_r ksp pme)))) + (kd.toInt64 * (f_X0_rate_r pme pmb))) (1000 : Int64)))) (f_X0_countIncrements_j1_1 kp ki kd ksu kle klr kgo (f_X0_error_r ksp pme) (f_X0_rate_r pme pmb) (((kp.toInt64 * (f_X0_error_r ksp pme)) + (kig + (ki.toInt64 * (f_X0_error_r ksp pme)))) + (kd.toInt64 * (f_X0_rate_r pme pmb)))) adp (f_X0_error_r ksp pme) (f_X0_rate_r pme pmb) (1 : Int32), zX2 adp pa1 pa2 pb pdt pld pme pmb ado plt]) (va_runV (As := [.long (f_X0_error_r ksp pme), .long (f_J9_floorDiv_f86c9_r (((kp.toInt64 * (f_X0_error_r ksp pme)) + (kig + (ki.toInt64 * (f_X0_error_r ksp pme)))) + (kd.toInt64 * (f_X0_rate_r pme pmb))) (1000 : Int64)), .long (f_X0_withinLimits_r klo khi (f_J9_floorDiv_f86c9_r (((kp.toInt64 * (f_X0_error_r ksp pme)) + (kig + (ki.toInt64 * (f_X0_error_r ksp pme)))) + (kd.toInt64 * (f_X0_rate_r pme pmb))) (1000 : Int64)))]) (rest := []) ⟨hx, hb, hml, hown, hts⟩ (c_X0_guardAgainstWindup l dC dI cI cJ cZ cO adc kp ki kd klo khi kgu ksh (f_X0_automaticSample_j1_1 kp ki kd klo khi khe ksp kig pme pmb) ksp (kig + (ki.toInt64 * (f_X0_error_r ksp pme))) (f_X0_countIncrements_j1_1 kp ki kd ksu kle klr kgo (f_X0_error_r ksp pme) (f_X0_rate_r pme pmb) (((kp.toInt64 * (f_X0_error_r ksp pme)) + (kig + (ki.toInt64 * (f_X0_error_r ksp pme)))) + (kd.toInt64 * (f_X0_rate_r pme pmb)))) adp (f_X0_error_r ksp pme) (f_X0_rate_r pme pmb) (1 : Int32) (f_X0_error_r ksp pme) (f_J9_floorDiv_f86c9_r (((kp.toInt64 * (f_X0_error_r ksp pme)) + (kig + (ki.toInt64 * (f_X0_error_r ksp pme)))) + (kd.toInt64 * (f_X0_rate_r pme pmb))) (1000 : Int64)) (f_X0_withinLimits_r klo khi (f_J9_floorDiv_f86c9_r (((kp.toInt64 * (f_X0_error_r ksp pme)) + (kig + (ki.toInt64 * (f_X0_error_r ksp pme)))) + (kd.toInt64 * (f_X0_rate_r pme pmb))) (1000 : Int64))) _) (cwV 3 hts (gd_V wd_3_163 wd_3_165 wd_p_9 wd_1_3 wd_3_166) rfl rfl rfl (by decide +kernel) ⟨Nat.le_of_ble_eq_true rfl, Nat.le_of_ble_eq_true rfl⟩) (hh_pV (ci := 0) (q := (RX0, TX0, 15)) (q0 := 0) rfl rfl gN_c (fun U _ hW => gN_w hW hG) hK hP hD [0] rfl rfl) rfl rfl hl.1 rfl (lv_room (Nat.le_of_ble_eq_true rfl)) dX0_automaticSample_98 ⟨Nat.le_of_ble_eq_true rfl, Nat.le_of_ble_eq_true rfl⟩) hP hD hS hA [0] [1] [1, 0] rfl rfl rfl (by decide) rfl rfl (fun H locs hP hD hS => ?_)
    refine lv_lload hx hb dX0_automaticSample_101 (lv_at hl 0 rfl) ?_
    exact hh_retl hQ (rfl) hx hb hr hlocks hP hK hD hS dX0_automaticSample_103
  refine hh_ceq (tgt := 92) hx hb dX0_automaticSample_78 dX0_automaticSample_79 (by decide) (fun h1 => ?_) (fun h1 => ?_)
  · skip
    have e2 : (f_X0_automaticSample_j1_1 kp ki kd klo khi khe ksp kig pme pmb) = khe := if_pos h1
    exact J1 _ _ _ (by rw [show (f_X0_automaticSample_j1_1 kp ki kd klo khi khe ksp kig pme pmb) = khe from if_pos h1]; exact hP) (by rw [show (f_X0_automaticSample_j1_1 kp ki kd klo khi khe ksp kig pme pmb) = khe from if_pos h1]; exact hD) hS (lv_sub hl [0, 1, 2, 3, 4, 5] rfl)
  · skip
    refine lv_aload_n hx hb dX0_automaticSample_82 rfl (lv_at hl 5 rfl) ?_
    refine lv_dup hx hb dX0_automaticSample_83 rfl ?_
    refine va_get (D := (dC, dI)) (ci := 0) (v := .int khe) (C := RX0) (T := TX0) (N := 15) hx hb hts inW_X0 hown hK hP 0 rfl rfl 7 (by decide) (hts _ wd_1_97) (fun _ h9 => h9) rfl dX0_automaticSample_84 ?_
    refine lv_iconst (v := 1) hx hb dX0_automaticSample_87 (by decide) ?_
    refine lv_iadd hx hb dX0_automaticSample_88 ?_
    refine va_put (D := (dC, dI)) (ci := 0) (v := .int (khe + (1 : Int32))) (ty := .int) (C := RX0) (T := TX0) (N := 15) hx hb hts inW_X0 tyX0 tyX0_ok nmX0 hown hK hP hD hS 0 rfl rfl 7 (by decide) (hts _ wd_1_97) (fun _ h9 => h9) rfl (tyX0_ok 7 (by decide)) rfl rfl (Nat.le_of_ble_eq_true rfl) dX0_automaticSample_89 (fun H locs hP hD hS => ?_)
    have hP : va_P (dC, dI) vwCl [zX0 adc kp ki kd klo khi kgu ksh (khe + (1 : Int32)) ksp (kig + (ki.toInt64 * (f_X0_error_r ksp pme))) (f_X0_countIncrements_j1_1 kp ki kd ksu kle klr kgo (f_X0_error_r ksp pme) (f_X0_rate_r pme pmb) (((kp.toInt64 * (f_X0_error_r ksp pme)) + (kig + (ki.toInt64 * (f_X0_error_r ksp pme)))) + (kd.toInt64 * (f_X0_rate_r pme pmb)))) adp (f_X0_error_r ksp pme) (f_X0_rate_r pme pmb) (1 : Int32), zX2 adp pa1 pa2 pb pdt pld pme pmb ado plt] H := hP
    have hD : va_D A [zX0 adc kp ki kd klo khi kgu ksh (khe + (1 : Int32)) ksp (kig + (ki.toInt64 * (f_X0_error_r ksp pme))) (f_X0_countIncrements_j1_1 kp ki kd ksu kle klr kgo (f_X0_error_r ksp pme) (f_X0_rate_r pme pmb) (((kp.toInt64 * (f_X0_error_r ksp pme)) + (kig + (ki.toInt64 * (f_X0_error_r ksp pme)))) + (kd.toInt64 * (f_X0_rate_r pme pmb)))) adp (f_X0_error_r ksp pme) (f_X0_rate_r pme pmb) (1 : Int32), zX2 adp pa1 pa2 pb pdt pld pme pmb ado plt] := hD
    have e3 : (f_X0_automaticSample_j1_1 kp ki kd klo khi khe ksp kig pme pmb) = (khe + (1 : Int32)) := if_neg h1
    exact J1 _ _ _ (by rw [show (f_X0_automaticSample_j1_1 kp ki kd klo khi khe ksp kig pme pmb) = (khe + (1 : Int32)) from if_neg h1]; exact hP) (by rw [show (f_X0_automaticSample_j1_1 kp ki kd klo khi khe ksp kig pme pmb) = (khe + (1 : Int32)) from if_neg h1]; exact hD) hS (lv_sub hl [0, 1, 2, 3, 4, 5] rfl)
