theorem bd_requireArgument (fi : Int32) : f_X5_requireArgument_x fi = 0 ∨ f_X5_requireArgument_x fi = 2 := by
  unfold f_X5_requireArgument_x; split <;> omega
theorem bd_requireState (fi : Int32) : f_X5_requireState_x fi = 0 ∨ f_X5_requireState_x fi = 3 := by
  unfold f_X5_requireState_x; split <;> omega
theorem bd_requireGainNumber (wh : Int32) : f_X5_requireGainNumber_x wh = 0 ∨ f_X5_requireGainNumber_x wh = 1 := by
  unfold f_X5_requireGainNumber_x; repeat' split
  all_goals omega
theorem bd_requireWithin (v lo hi : Int32) : f_X5_requireWithin_x v lo hi = 0 ∨ f_X5_requireWithin_x v lo hi = 2 := by
  have h := bd_requireArgument (f_X5_requireWithin_j1_1 v lo hi)
  unfold f_X5_requireWithin_x; split <;> omega
theorem bd_requireGains (np ni nd : Int32) : f_X5_requireGains_x np ni nd = 0 ∨ f_X5_requireGains_x np ni nd = 2 := by
  have h1 := bd_requireWithin np (-20000 : Int32) (20000 : Int32)
  have h2 := bd_requireWithin ni (-5000 : Int32) (5000 : Int32)
  have h3 := bd_requireWithin nd (-50000 : Int32) (50000 : Int32)
  unfold f_X5_requireGains_x; repeat' split
  all_goals omega
def gW (A : Nat → Prop) (U : State) : Prop := gT A U ∧ va_Nc (exN 2) (exN 1) U ∧ va_Nc (exN 3) (exN 1) U ∧ va_Nc (exN 3) (exN 2) U
def wr1 (cx : Nat) : Int32 := if cx = 0 then 0 else 1
def wr12 (cx : Nat) : Int32 := if cx = 0 then 0 else if cx = 1 then 1 else 2
def wr123 (cx : Nat) : Int32 := if cx = 0 then 0 else if cx = 1 then 1 else if cx = 2 then 2 else 3
def wr2 (cx : Nat) : Int32 := if cx = 0 then 0 else 1
def wr13 (cx : Nat) : Int32 := if cx = 0 then 0 else if cx = 1 then 1 else 2
theorem bd_setPlant (a1v a2v bv dtv : Int32) : f_X5_setPlant_x a1v a2v bv dtv = 0 ∨ f_X5_setPlant_x a1v a2v bv dtv = 2 := by
  have h0 := bd_requireWithin a1v (-2000 : Int32) (2000 : Int32)
  have h1 := bd_requireWithin a2v (-1000 : Int32) (1000 : Int32)
  have h2 := bd_requireWithin bv (-2000 : Int32) (2000 : Int32)
  have h3 := bd_requireWithin dtv (0 : Int32) (10 : Int32)
  unfold f_X5_setPlant_x; repeat' split
  all_goals omega
def f_L_setPlant_pa1 (pa1 a1v a2v bv dtv : Int32) : Int32 := if (f_X5_setPlant_x a1v a2v bv dtv) = 0 then a1v else pa1
def f_L_setPlant_pa2 (pa2 a1v a2v bv dtv : Int32) : Int32 := if (f_X5_setPlant_x a1v a2v bv dtv) = 0 then a2v else pa2
def f_L_setPlant_pb (pb a1v a2v bv dtv : Int32) : Int32 := if (f_X5_setPlant_x a1v a2v bv dtv) = 0 then bv else pb
def f_L_setPlant_pdt (pdt a1v a2v bv dtv : Int32) : Int32 := if (f_X5_setPlant_x a1v a2v bv dtv) = 0 then dtv else pdt
def f_L_setPlant_r (a1v a2v bv dtv : Int32) : Int32 := if (f_X5_setPlant_x a1v a2v bv dtv) = 0 then (0 : Int32) else (wr12 (f_X5_setPlant_x a1v a2v bv dtv))
set_option maxHeartbeats 4000000 in
set_option maxRecDepth 100000 in
theorem c_L_setPlant (l : Launch) (dC : Nat → ClassId) (dI : Nat → Nat → Nat) (cI cJ cZ cO : ClassId) (adB adA : Nat) (bs : Int32) (lf : Nat → Option Nat) (adL adc adp ads adr : Nat) (lmo : Int32) (lha : Int64) (lfo lma lst : Int32) (lou : Int64) (pa1 pa2 pb pdt pld : Int32) (pme pmb : Int64) (ado : Nat) (plt lp a1v a2v bv dtv : Int32) (sz : Nat) (hfl : l.stackTraces = false) (hl0 : ¬ lp < (0 : Int32)) (hl3 : lp < (3 : Int32)) (hlf : lf lp.toNatClampNeg = some adL) : Met l yL_setPlant (Cond.codeWith yL_setPlant cL_setPlant 7 (some .int) [(0, 11, 14, 13), (0, 11, 18, 15)] :: wAll) ({ frames := 9, cells := 4, slots := 24, locals := 150 }) (va_Pc [.ref adB, .int lp, .int a1v, .int a2v, .int bv, .int dtv] (gP (dC, dI) [zX5 adB adA bs, zAL cO adA 3 lf, zX1 adL adc adp ads adr lmo lha lfo lma lst lou, zX2 adp pa1 pa2 pb pdt pld pme pmb ado plt] (tyG cI cJ cZ cO) sz (gW (va_A [zX5 adB adA bs, zAL cO adA 3 lf, zX1 adL adc adp ads adr lmo lha lfo lma lst lou, zX2 adp pa1 pa2 pb pdt pld pme pmb ado plt] sz)))) (va_Qi (fun r (_ : Unit) => r = (f_L_setPlant_r a1v a2v bv dtv)) (fun _ t => gB (dC, dI) (va_A [zX5 adB adA bs, zAL cO adA 3 lf, zX1 adL adc adp ads adr lmo lha lfo lma lst lou, zX2 adp pa1 pa2 pb pdt pld pme pmb ado plt] sz) [zX5 adB adA bs, zAL cO adA 3 lf, zX1 adL adc adp ads adr lmo lha lfo lma lst lou, zX2 adp (f_L_setPlant_pa1 pa1 a1v a2v bv dtv) (f_L_setPlant_pa2 pa2 a1v a2v bv dtv) (f_L_setPlant_pb pb a1v a2v bv dtv) (f_L_setPlant_pdt pdt a1v a2v bv dtv) pld pme pmb ado plt] (tyG cI cJ cZ cO) t) (va_A [zX5 adB adA bs, zAL cO adA 3 lf, zX1 adL adc adp ads adr lmo lha lfo lma lst lou, zX2 adp pa1 pa2 pb pdt pld pme pmb ado plt] sz)) 4 24 (va_A [zX5 adB adA bs, zAL cO adA 3 lf, zX1 adL adc adp ads adr lmo lha lfo lma lst lou, zX2 adp pa1 pa2 pb pdt pld pme pmb ado plt] sz) := by
  refine va_MetW (cc := cL_setPlant) (maxL := 7) (ret := (some .int)) (by decide) rfl ?_
  intro p e s m args below meth c s₁ B hml hv
  obtain ⟨rfl, hsz, hP, hK, hD0, hG⟩ := hv
  have hx := B.exec
  have hb := B.bytes
  have hr := B.returns
  have hts := ht_of B.pre
  have hown : s.vm.findClass RL = some m.cls := findClass_of_methodNamed B.named
  have hlocks := B.notSynchronized
  have htab := vx_table (x := yL_setPlant) B (hts _ wd_2_21)
  subst hsz
  have hD := hD0.self (sz := s.heap.size)
  generalize hAe : va_A [zX5 adB adA bs, zAL cO adA 3 lf, zX1 adL adc adp ads adr lmo lha lfo lma lst lou, zX2 adp pa1 pa2 pb pdt pld pme pmb ado plt] s.heap.size = A at hD hG ⊢
  have hA : ∀ q : Nat, s.heap.size ≤ q → A q := fun q h => by rw [← hAe]; exact Or.inr h
  have hS : va_S A s.heap s.heap [] := va_S.rf
  have hP : va_P (dC, dI) vwCl [zX5 adB adA bs, zAL cO adA 3 lf, zX1 adL adc adp ads adr lmo lha lfo lma lst lou, zX2 adp pa1 pa2 pb pdt pld pme pmb ado plt] s.heap := hP
  have hl := lv_entry ([.ref adB, .int lp, .int a1v, .int a2v, .int bv, .int dtv]) (n := 7) (Nat.le_of_ble_eq_true rfl)
  rw [lg_entry_eq]
  generalize (lg_sl ([.ref adB, .int lp, .int a1v, .int a2v, .int bv, .int dtv]) ++ List.replicate (7 - (lg_sl ([.ref adB, .int lp, .int a1v, .int a2v, .int bv, .int dtv])).length) Slot.unset).toArray = ls at hl ⊢
  have hl : lv_has ls 7 [(0, .ref adB), (1, .int lp), (2, .int a1v), (3, .int a2v), (4, .int bv), (5, .int dtv)] := hl
  refine hh_name (fun Q hQ => ?_)
  refine lv_aload_n hx hb dL_setPlant_0 rfl (lv_at hl 0 rfl) ?_
  refine lv_iload_n hx hb dL_setPlant_1 rfl (lv_at hl 1 rfl) ?_
  refine lv_iload_n hx hb dL_setPlant_2 rfl (lv_at hl 2 rfl) ?_
  refine lv_iload_n hx hb dL_setPlant_3 rfl (lv_at hl 3 rfl) ?_
  refine lv_iload hx hb dL_setPlant_4 (lv_at hl 4 rfl) ?_
  refine lv_iload hx hb dL_setPlant_6 (lv_at hl 5 rfl) ?_
  refine hh_xcallv (w2 := [zX5 adB adA bs, zAL cO adA 3 lf, zX1 adL adc adp ads adr lmo lha lfo lma lst lou, zX2 adp a1v a2v bv dtv pld pme pmb ado plt]) (vx_runV (As := [.int lp, .int a1v, .int a2v, .int bv, .int dtv]) (rest := []) ⟨hx, hb, hml, hown, hts⟩ (c_X5_setPlant l dC dI cI cJ cZ cO adB adA bs lf adL adc adp ads adr lmo lha lfo lma lst lou pa1 pa2 pb pdt pld pme pmb ado plt lp a1v a2v bv dtv _ hfl hl0 hl3 hlf) (cwV 5 hts (gd_V wd_2_24 wd_2_25 wd_2_26 wd_1_1 wd_2_27) rfl rfl rfl (by decide +kernel) ⟨Nat.le_of_ble_eq_true rfl, Nat.le_of_ble_eq_true rfl⟩) (hh_pV (ci := 5) (q := (RX5, TX5, 2)) (q0 := 0) rfl rfl (gT_c _) (gT_call hG.1 hS (va_free hD hS hA [0, 1, 2, 3] rfl)) hK hP hD [0, 1, 2, 3] rfl rfl) rfl rfl hl.1 rfl (lv_room (Nat.le_of_ble_eq_true rfl)) dL_setPlant_8 ⟨Nat.le_of_ble_eq_true rfl, Nat.le_of_ble_eq_true rfl⟩) hP hD hS hA [0, 1, 2, 3] [] [0, 1, 2, 3] rfl rfl rfl (by decide) rfl rfl rfl (fun E ce q9 H locs h1 hE hP hD hS hc1 hc2 hc3 => ?_) (fun H locs h1 hP hD hS => ?_)
  · skip
    rcases bd_setPlant a1v a2v bv dtv with hc | hc
    · exact absurd hc h1
    · skip
      rw [hc] at hE
      subst hE
      refine vx_catch (name := exN 2) hown [⟨0, 11, 14, 13⟩] ⟨0, 11, 18, 15⟩ [] htab (List.forall_mem_cons.mpr ⟨Or.inr ⟨by decide, exN 1, hts _ wd_2_22, hG.2.1⟩, fun _ h => nomatch h⟩) rfl (by decide) (hts _ wd_2_23) (va_Nw.use rfl hG.1.2.1.2.2.2.2.2.1) hc1 hc2 hc3 ?_
      refine W.eq (g2 := F0 m 18 ls [.ref q9]) rfl ?_
      refine lv_astore (lv' := [(6, .ref q9), (0, .ref adB), (1, .int lp), (2, .int a1v), (3, .int a2v), (4, .int bv), (5, .int dtv)]) hx hb dL_setPlant_18 hl (by decide) rfl (fun ls hl => ?_)
      refine lv_iconst (v := 2) hx hb dL_setPlant_20 (by decide) ?_
      refine W.widen (k := 4) (n := 24) (Nat.le_of_ble_eq_true rfl) (Nat.le_of_ble_eq_true rfl) ?_
      exact hh_reti hQ (((if_neg h1).trans (show (wr12 (f_X5_setPlant_x a1v a2v bv dtv)) = 2 from by rw [hc]; rfl)).symm) hx hb hr hlocks (by rw [show (f_L_setPlant_pa1 pa1 a1v a2v bv dtv) = pa1 from if_neg h1, show (f_L_setPlant_pa2 pa2 a1v a2v bv dtv) = pa2 from if_neg h1, show (f_L_setPlant_pb pb a1v a2v bv dtv) = pb from if_neg h1, show (f_L_setPlant_pdt pdt a1v a2v bv dtv) = pdt from if_neg h1]; exact hP) hK (by rw [show (f_L_setPlant_pa1 pa1 a1v a2v bv dtv) = pa1 from if_neg h1, show (f_L_setPlant_pa2 pa2 a1v a2v bv dtv) = pa2 from if_neg h1, show (f_L_setPlant_pb pb a1v a2v bv dtv) = pb from if_neg h1, show (f_L_setPlant_pdt pdt a1v a2v bv dtv) = pdt from if_neg h1]; exact hD) hS dL_setPlant_21
  · skip
    refine lv_goto (tgt := 22) hx hb dL_setPlant_11 (by decide) ?_
    refine lv_iconst (v := 0) hx hb dL_setPlant_22 (by decide) ?_
    exact hh_reti hQ ((if_pos h1).symm) hx hb hr hlocks (by rw [show (f_L_setPlant_pa1 pa1 a1v a2v bv dtv) = a1v from if_pos h1, show (f_L_setPlant_pa2 pa2 a1v a2v bv dtv) = a2v from if_pos h1, show (f_L_setPlant_pb pb a1v a2v bv dtv) = bv from if_pos h1, show (f_L_setPlant_pdt pdt a1v a2v bv dtv) = dtv from if_pos h1]; exact hP) hK (by rw [show (f_L_setPlant_pa1 pa1 a1v a2v bv dtv) = a1v from if_pos h1, show (f_L_setPlant_pa2 pa2 a1v a2v bv dtv) = a2v from if_pos h1, show (f_L_setPlant_pb pb a1v a2v bv dtv) = bv from if_pos h1, show (f_L_setPlant_pdt pdt a1v a2v bv dtv) = dtv from if_pos h1]; exact hD) hS dL_setPlant_23
set_option maxHeartbeats 4000000 in
set_option maxRecDepth 100000 in
theorem c_L_setPlant_o (l : Launch) (dC : Nat → ClassId) (dI : Nat → Nat → Nat) (cI cJ cZ cO : ClassId) (adB adA : Nat) (bs : Int32) (lf : Nat → Option Nat) (lp a1v a2v bv dtv : Int32) (sz : Nat) (hfl : l.stackTraces = false) (hlo : ¬ lp < (0 : Int32) → ¬ lp < (3 : Int32)) : Met l yL_setPlant (Cond.codeWith yL_setPlant cL_setPlant 7 (some .int) [(0, 11, 14, 13), (0, 11, 18, 15)] :: wAll) ({ frames := 8, cells := 1, slots := 6, locals := 129 }) (va_Pc [.ref adB, .int lp, .int a1v, .int a2v, .int bv, .int dtv] (gP (dC, dI) [zX5 adB adA bs, zAL cO adA 3 lf] (tyG cI cJ cZ cO) sz (gW (va_A [zX5 adB adA bs, zAL cO adA 3 lf] sz)))) (va_Qi (fun r (_ : Unit) => r = (wr12 1)) (fun _ t => gB (dC, dI) (va_A [zX5 adB adA bs, zAL cO adA 3 lf] sz) [zX5 adB adA bs, zAL cO adA 3 lf] (tyG cI cJ cZ cO) t) (va_A [zX5 adB adA bs, zAL cO adA 3 lf] sz)) 1 6 (va_A [zX5 adB adA bs, zAL cO adA 3 lf] sz) := by
  refine va_MetW (cc := cL_setPlant) (maxL := 7) (ret := (some .int)) (by decide) rfl ?_
  intro p e s m args below meth c s₁ B hml hv
  obtain ⟨rfl, hsz, hP, hK, hD0, hG⟩ := hv
  have hx := B.exec
  have hb := B.bytes
  have hr := B.returns
  have hts := ht_of B.pre
  have hown : s.vm.findClass RL = some m.cls := findClass_of_methodNamed B.named
  have hlocks := B.notSynchronized
  have htab := vx_table (x := yL_setPlant) B (hts _ wd_2_21)
  subst hsz
  have hD := hD0.self (sz := s.heap.size)
  generalize hAe : va_A [zX5 adB adA bs, zAL cO adA 3 lf] s.heap.size = A at hD hG ⊢
  have hA : ∀ q : Nat, s.heap.size ≤ q → A q := fun q h => by rw [← hAe]; exact Or.inr h
  have hS : va_S A s.heap s.heap [] := va_S.rf
  have hP : va_P (dC, dI) vwCl [zX5 adB adA bs, zAL cO adA 3 lf] s.heap := hP
  have hl := lv_entry ([.ref adB, .int lp, .int a1v, .int a2v, .int bv, .int dtv]) (n := 7) (Nat.le_of_ble_eq_true rfl)
  rw [lg_entry_eq]
  generalize (lg_sl ([.ref adB, .int lp, .int a1v, .int a2v, .int bv, .int dtv]) ++ List.replicate (7 - (lg_sl ([.ref adB, .int lp, .int a1v, .int a2v, .int bv, .int dtv])).length) Slot.unset).toArray = ls at hl ⊢
  have hl : lv_has ls 7 [(0, .ref adB), (1, .int lp), (2, .int a1v), (3, .int a2v), (4, .int bv), (5, .int dtv)] := hl
  refine hh_name (fun Q hQ => ?_)
  refine lv_aload_n hx hb dL_setPlant_0 rfl (lv_at hl 0 rfl) ?_
  refine lv_iload_n hx hb dL_setPlant_1 rfl (lv_at hl 1 rfl) ?_
  refine lv_iload_n hx hb dL_setPlant_2 rfl (lv_at hl 2 rfl) ?_
  refine lv_iload_n hx hb dL_setPlant_3 rfl (lv_at hl 3 rfl) ?_
  refine lv_iload hx hb dL_setPlant_4 (lv_at hl 4 rfl) ?_
  refine lv_iload hx hb dL_setPlant_6 (lv_at hl 5 rfl) ?_
  refine hh_xcallv (w2 := [zX5 adB adA bs, zAL cO adA 3 lf]) (vx_runV (As := [.int lp, .int a1v, .int a2v, .int bv, .int dtv]) (rest := []) ⟨hx, hb, hml, hown, hts⟩ (c_X5_setPlant_o l dC dI cI cJ cZ cO adB adA bs lf lp a1v a2v bv dtv _ hfl hlo) (cwV 5 hts (gd_V wd_2_24 wd_2_25 wd_2_26 wd_1_1 wd_2_27) rfl rfl rfl (by decide +kernel) ⟨Nat.le_of_ble_eq_true rfl, Nat.le_of_ble_eq_true rfl⟩) (hh_pV (ci := 5) (q := (RX5, TX5, 2)) (q0 := 0) rfl rfl (gT_c _) (gT_call hG.1 hS (va_free hD hS hA [0, 1] rfl)) hK hP hD [0, 1] rfl rfl) rfl rfl hl.1 rfl (lv_room (Nat.le_of_ble_eq_true rfl)) dL_setPlant_8 ⟨Nat.le_of_ble_eq_true rfl, Nat.le_of_ble_eq_true rfl⟩) hP hD hS hA [0, 1] [] [0, 1] rfl rfl rfl (by decide) rfl rfl rfl (fun E ce q9 H locs h1 hE hP hD hS hc1 hc2 hc3 => ?_) (fun H locs h1 hP hD hS => ?_)
  · skip
    have hc : 1 = 1 := rfl
    rw [hc] at hE
    subst hE
    refine vx_catch (name := exN 1) hown [] ⟨0, 11, 14, 13⟩ [⟨0, 11, 18, 15⟩] htab (fun _ h => nomatch h) rfl (by decide) (hts _ wd_2_22) (va_Nw.use rfl hG.1.2.1.2.2.2.2.1) hc1 hc2 hc3 ?_
    refine W.eq (g2 := F0 m 14 ls [.ref q9]) rfl ?_
    refine lv_astore (lv' := [(6, .ref q9), (0, .ref adB), (1, .int lp), (2, .int a1v), (3, .int a2v), (4, .int bv), (5, .int dtv)]) hx hb dL_setPlant_14 hl (by decide) rfl (fun ls hl => ?_)
    refine lv_iconst (v := 1) hx hb dL_setPlant_16 (by decide) ?_
    refine W.widen (k := 1) (n := 6) (Nat.le_of_ble_eq_true rfl) (Nat.le_of_ble_eq_true rfl) ?_
    exact hh_reti hQ (((show (wr12 1) = 1 from by rw [hc]; rfl)).symm) hx hb hr hlocks hP hK hD hS dL_setPlant_17
  · skip
    exact absurd h1 (by decide)
theorem bd_setLoad (ldv : Int32) : f_X5_setLoad_x ldv = 0 ∨ f_X5_setLoad_x ldv = 2 := by
  have h0 := bd_requireWithin ldv (-10000 : Int32) (10000 : Int32)
  unfold f_X5_setLoad_x; repeat' split
  all_goals omega
def f_L_setLoad_pld (pld ldv : Int32) : Int32 := if (f_X5_setLoad_x ldv) = 0 then ldv else pld
def f_L_setLoad_uo (pld : Int32) (uo : Nat → Int64) (ldv : Int32) : Nat → Int64 := if (f_X5_setLoad_x ldv) = 0 then (vp_updL uo (0 : Int32).toNatClampNeg (pld.toInt64)) else uo
def f_L_setLoad_r (ldv : Int32) : Int32 := if (f_X5_setLoad_x ldv) = 0 then (0 : Int32) else (wr12 (f_X5_setLoad_x ldv))
set_option maxHeartbeats 4000000 in
set_option maxRecDepth 100000 in
theorem c_L_setLoad (l : Launch) (dC : Nat → ClassId) (dI : Nat → Nat → Nat) (cI cJ cZ cO : ClassId) (adB adA : Nat) (bs : Int32) (lf : Nat → Option Nat) (adL adc adp ads adr : Nat) (lmo : Int32) (lha : Int64) (lfo lma lst : Int32) (lou : Int64) (pa1 pa2 pb pdt pld : Int32) (pme pmb : Int64) (ado : Nat) (plt : Int32) (adU : Nat) (uo : Nat → Int64) (lp ldv : Int32) (sz : Nat) (hfl : l.stackTraces = false) (hl0 : ¬ lp < (0 : Int32)) (hl3 : lp < (3 : Int32)) (hlf : lf lp.toNatClampNeg = some adL) : Met l yL_setLoad (Cond.codeWith yL_setLoad cL_setLoad 5 (some .int) [(0, 10, 13, 13), (0, 10, 17, 15)] :: wAll) ({ frames := 9, cells := 1, slots := 6, locals := 148 }) (va_Pc [.ref adB, .int lp, .int ldv, .ref adU] (gP (dC, dI) [zX5 adB adA bs, zAL cO adA 3 lf, zX1 adL adc adp ads adr lmo lha lfo lma lst lou, zX2 adp pa1 pa2 pb pdt pld pme pmb ado plt, zAJ cJ adU 1 uo] (tyG cI cJ cZ cO) sz (gW (va_A [zX5 adB adA bs, zAL cO adA 3 lf, zX1 adL adc adp ads adr lmo lha lfo lma lst lou, zX2 adp pa1 pa2 pb pdt pld pme pmb ado plt, zAJ cJ adU 1 uo] sz)))) (va_Qi (fun r (_ : Unit) => r = (f_L_setLoad_r ldv)) (fun _ t => gB (dC, dI) (va_A [zX5 adB adA bs, zAL cO adA 3 lf, zX1 adL adc adp ads adr lmo lha lfo lma lst lou, zX2 adp pa1 pa2 pb pdt pld pme pmb ado plt, zAJ cJ adU 1 uo] sz) [zX5 adB adA bs, zAL cO adA 3 lf, zX1 adL adc adp ads adr lmo lha lfo lma lst lou, zX2 adp pa1 pa2 pb pdt (f_L_setLoad_pld pld ldv) pme pmb ado plt, zAJ cJ adU 1 (f_L_setLoad_uo pld uo ldv)] (tyG cI cJ cZ cO) t) (va_A [zX5 adB adA bs, zAL cO adA 3 lf, zX1 adL adc adp ads adr lmo lha lfo lma lst lou, zX2 adp pa1 pa2 pb pdt pld pme pmb ado plt, zAJ cJ adU 1 uo] sz)) 1 6 (va_A [zX5 adB adA bs, zAL cO adA 3 lf, zX1 adL adc adp ads adr lmo lha lfo lma lst lou, zX2 adp pa1 pa2 pb pdt pld pme pmb ado plt, zAJ cJ adU 1 uo] sz) := by
  refine va_MetW (cc := cL_setLoad) (maxL := 5) (ret := (some .int)) (by decide) rfl ?_
  intro p e s m args below meth c s₁ B hml hv
  obtain ⟨rfl, hsz, hP, hK, hD0, hG⟩ := hv
  have hx := B.exec
  have hb := B.bytes
  have hr := B.returns
  have hts := ht_of B.pre
  have hown : s.vm.findClass RL = some m.cls := findClass_of_methodNamed B.named
  have hlocks := B.notSynchronized
  have htab := vx_table (x := yL_setLoad) B (hts _ wd_2_124)
  subst hsz
  have hD := hD0.self (sz := s.heap.size)
  generalize hAe : va_A [zX5 adB adA bs, zAL cO adA 3 lf, zX1 adL adc adp ads adr lmo lha lfo lma lst lou, zX2 adp pa1 pa2 pb pdt pld pme pmb ado plt, zAJ cJ adU 1 uo] s.heap.size = A at hD hG ⊢
  have hA : ∀ q : Nat, s.heap.size ≤ q → A q := fun q h => by rw [← hAe]; exact Or.inr h
  have hS : va_S A s.heap s.heap [] := va_S.rf
  have hP : va_P (dC, dI) vwCl [zX5 adB adA bs, zAL cO adA 3 lf, zX1 adL adc adp ads adr lmo lha lfo lma lst lou, zX2 adp pa1 pa2 pb pdt pld pme pmb ado plt, zAJ cJ adU 1 uo] s.heap := hP
  have hl := lv_entry ([.ref adB, .int lp, .int ldv, .ref adU]) (n := 5) (Nat.le_of_ble_eq_true rfl)
  rw [lg_entry_eq]
  generalize (lg_sl ([.ref adB, .int lp, .int ldv, .ref adU]) ++ List.replicate (5 - (lg_sl ([.ref adB, .int lp, .int ldv, .ref adU])).length) Slot.unset).toArray = ls at hl ⊢
  have hl : lv_has ls 5 [(0, .ref adB), (1, .int lp), (2, .int ldv), (3, .ref adU)] := hl
  refine hh_name (fun Q hQ => ?_)
  refine lv_aload_n hx hb dL_setLoad_0 rfl (lv_at hl 3 rfl) ?_
  refine lv_iconst (v := 0) hx hb dL_setLoad_1 (by decide) ?_
  refine lv_aload_n hx hb dL_setLoad_2 rfl (lv_at hl 0 rfl) ?_
  refine lv_iload_n hx hb dL_setLoad_3 rfl (lv_at hl 1 rfl) ?_
  refine lv_iload_n hx hb dL_setLoad_4 rfl (lv_at hl 2 rfl) ?_
  refine hh_xcalli (w2 := [zX5 adB adA bs, zAL cO adA 3 lf, zX1 adL adc adp ads adr lmo lha lfo lma lst lou, zX2 adp pa1 pa2 pb pdt ldv pme pmb ado plt, zAJ cJ adU 1 uo]) (vx_runV (As := [.int lp, .int ldv]) (rest := [.int (0 : Int32), .ref adU]) ⟨hx, hb, hml, hown, hts⟩ (c_X5_setLoad l dC dI cI cJ cZ cO adB adA bs lf adL adc adp ads adr lmo lha lfo lma lst lou pa1 pa2 pb pdt pld pme pmb ado plt lp ldv _ hfl hl0 hl3 hlf) (cwV 2 hts (gd_V wd_2_125 wd_2_126 wd_2_127 wd_1_1 wd_2_128) rfl rfl rfl (by decide +kernel) ⟨Nat.le_of_ble_eq_true rfl, Nat.le_of_ble_eq_true rfl⟩) (hh_pV (ci := 5) (q := (RX5, TX5, 2)) (q0 := 0) rfl rfl (gT_c _) (gT_call hG.1 hS (va_free hD hS hA [0, 1, 2, 3] rfl)) hK hP hD [0, 1, 2, 3] rfl rfl) rfl rfl hl.1 rfl (lv_room (Nat.le_of_ble_eq_true rfl)) dL_setLoad_5 ⟨Nat.le_of_ble_eq_true rfl, Nat.le_of_ble_eq_true rfl⟩) hP hD hS hA [0, 1, 2, 3] [4] [1, 2, 3, 4, 0] rfl rfl rfl (by decide) rfl rfl rfl (fun E ce q9 H locs h1 hE hP hD hS hc1 hc2 hc3 => ?_) (fun H locs h1 hP hD hS => ?_)
  · skip
    rcases bd_setLoad ldv with hc | hc
    · exact absurd hc h1
    · skip
      rw [hc] at hE
      subst hE
      refine vx_catch (name := exN 2) hown [⟨0, 10, 13, 13⟩] ⟨0, 10, 17, 15⟩ [] htab (List.forall_mem_cons.mpr ⟨Or.inr ⟨by decide, exN 1, hts _ wd_2_22, hG.2.1⟩, fun _ h => nomatch h⟩) rfl (by decide) (hts _ wd_2_23) (va_Nw.use rfl hG.1.2.1.2.2.2.2.2.1) hc1 hc2 hc3 ?_
      refine W.eq (g2 := F0 m 17 ls [.ref q9]) rfl ?_
      refine lv_astore (lv' := [(4, .ref q9), (0, .ref adB), (1, .int lp), (2, .int ldv), (3, .ref adU)]) hx hb dL_setLoad_17 hl (by decide) rfl (fun ls hl => ?_)
      refine lv_iconst (v := 2) hx hb dL_setLoad_19 (by decide) ?_
      refine W.widen (k := 1) (n := 6) (Nat.le_of_ble_eq_true rfl) (Nat.le_of_ble_eq_true rfl) ?_
      exact hh_reti hQ (((if_neg h1).trans (show (wr12 (f_X5_setLoad_x ldv)) = 2 from by rw [hc]; rfl)).symm) hx hb hr hlocks (by rw [show (f_L_setLoad_pld pld ldv) = pld from if_neg h1, show (f_L_setLoad_uo pld uo ldv) = uo from if_neg h1]; exact hP) hK (by rw [show (f_L_setLoad_pld pld ldv) = pld from if_neg h1, show (f_L_setLoad_uo pld uo ldv) = uo from if_neg h1]; exact hD) hS dL_setLoad_20
  · skip
    refine lv_i2l hx hb dL_setLoad_8 rfl ?_
    refine va_last hx hb hK hP hD hS 4 1 rfl rfl (i := (0 : Int32)) (ix_d (by decide)) dL_setLoad_9 (fun H locs hP hD hS => ?_)
    have hP : va_P (dC, dI) vwCl [zX5 adB adA bs, zAL cO adA 3 lf, zX1 adL adc adp ads adr lmo lha lfo lma lst lou, zX2 adp pa1 pa2 pb pdt ldv pme pmb ado plt, zAJ cJ adU 1 (vp_updL uo (0 : Int32).toNatClampNeg (pld.toInt64))] H := hP
    have hD : va_D A [zX5 adB adA bs, zAL cO adA 3 lf, zX1 adL adc adp ads adr lmo lha lfo lma lst lou, zX2 adp pa1 pa2 pb pdt ldv pme pmb ado plt, zAJ cJ adU 1 (vp_updL uo (0 : Int32).toNatClampNeg (pld.toInt64))] := hD
    refine lv_goto (tgt := 21) hx hb dL_setLoad_10 (by decide) ?_
    refine lv_iconst (v := 0) hx hb dL_setLoad_21 (by decide) ?_
    exact hh_reti hQ ((if_pos h1).symm) hx hb hr hlocks (by rw [show (f_L_setLoad_pld pld ldv) = ldv from if_pos h1, show (f_L_setLoad_uo pld uo ldv) = (vp_updL uo (0 : Int32).toNatClampNeg (pld.toInt64)) from if_pos h1]; exact hP) hK (by rw [show (f_L_setLoad_pld pld ldv) = ldv from if_pos h1, show (f_L_setLoad_uo pld uo ldv) = (vp_updL uo (0 : Int32).toNatClampNeg (pld.toInt64)) from if_pos h1]; exact hD) hS dL_setLoad_22
set_option maxHeartbeats 4000000 in
set_option maxRecDepth 100000 in
theorem c_L_setLoad_o (l : Launch) (dC : Nat → ClassId) (dI : Nat → Nat → Nat) (cI cJ cZ cO : ClassId) (adB adA : Nat) (bs : Int32) (lf : Nat → Option Nat) (adU : Nat) (uo : Nat → Int64) (lp ldv : Int32) (sz : Nat) (hfl : l.stackTraces = false) (hlo : ¬ lp < (0 : Int32) → ¬ lp < (3 : Int32)) : Met l yL_setLoad (Cond.codeWith yL_setLoad cL_setLoad 5 (some .int) [(0, 10, 13, 13), (0, 10, 17, 15)] :: wAll) ({ frames := 8, cells := 1, slots := 6, locals := 127 }) (va_Pc [.ref adB, .int lp, .int ldv, .ref adU] (gP (dC, dI) [zX5 adB adA bs, zAL cO adA 3 lf, zAJ cJ adU 1 uo] (tyG cI cJ cZ cO) sz (gW (va_A [zX5 adB adA bs, zAL cO adA 3 lf, zAJ cJ adU 1 uo] sz)))) (va_Qi (fun r (_ : Unit) => r = (wr12 1)) (fun _ t => gB (dC, dI) (va_A [zX5 adB adA bs, zAL cO adA 3 lf, zAJ cJ adU 1 uo] sz) [zX5 adB adA bs, zAL cO adA 3 lf, zAJ cJ adU 1 uo] (tyG cI cJ cZ cO) t) (va_A [zX5 adB adA bs, zAL cO adA 3 lf, zAJ cJ adU 1 uo] sz)) 1 6 (va_A [zX5 adB adA bs, zAL cO adA 3 lf, zAJ cJ adU 1 uo] sz) := by
  refine va_MetW (cc := cL_setLoad) (maxL := 5) (ret := (some .int)) (by decide) rfl ?_
  intro p e s m args below meth c s₁ B hml hv
  obtain ⟨rfl, hsz, hP, hK, hD0, hG⟩ := hv
  have hx := B.exec
  have hb := B.bytes
  have hr := B.returns
  have hts := ht_of B.pre
  have hown : s.vm.findClass RL = some m.cls := findClass_of_methodNamed B.named
  have hlocks := B.notSynchronized
  have htab := vx_table (x := yL_setLoad) B (hts _ wd_2_124)
  subst hsz
  have hD := hD0.self (sz := s.heap.size)
  generalize hAe : va_A [zX5 adB adA bs, zAL cO adA 3 lf, zAJ cJ adU 1 uo] s.heap.size = A at hD hG ⊢
  have hA : ∀ q : Nat, s.heap.size ≤ q → A q := fun q h => by rw [← hAe]; exact Or.inr h
  have hS : va_S A s.heap s.heap [] := va_S.rf
  have hP : va_P (dC, dI) vwCl [zX5 adB adA bs, zAL cO adA 3 lf, zAJ cJ adU 1 uo] s.heap := hP
  have hl := lv_entry ([.ref adB, .int lp, .int ldv, .ref adU]) (n := 5) (Nat.le_of_ble_eq_true rfl)
  rw [lg_entry_eq]
  generalize (lg_sl ([.ref adB, .int lp, .int ldv, .ref adU]) ++ List.replicate (5 - (lg_sl ([.ref adB, .int lp, .int ldv, .ref adU])).length) Slot.unset).toArray = ls at hl ⊢
  have hl : lv_has ls 5 [(0, .ref adB), (1, .int lp), (2, .int ldv), (3, .ref adU)] := hl
  refine hh_name (fun Q hQ => ?_)
  refine lv_aload_n hx hb dL_setLoad_0 rfl (lv_at hl 3 rfl) ?_
  refine lv_iconst (v := 0) hx hb dL_setLoad_1 (by decide) ?_
  refine lv_aload_n hx hb dL_setLoad_2 rfl (lv_at hl 0 rfl) ?_
  refine lv_iload_n hx hb dL_setLoad_3 rfl (lv_at hl 1 rfl) ?_
  refine lv_iload_n hx hb dL_setLoad_4 rfl (lv_at hl 2 rfl) ?_
  refine hh_xcalli (w2 := [zX5 adB adA bs, zAL cO adA 3 lf, zAJ cJ adU 1 uo]) (vx_runV (As := [.int lp, .int ldv]) (rest := [.int (0 : Int32), .ref adU]) ⟨hx, hb, hml, hown, hts⟩ (c_X5_setLoad_o l dC dI cI cJ cZ cO adB adA bs lf lp ldv _ hfl hlo) (cwV 2 hts (gd_V wd_2_125 wd_2_126 wd_2_127 wd_1_1 wd_2_128) rfl rfl rfl (by decide +kernel) ⟨Nat.le_of_ble_eq_true rfl, Nat.le_of_ble_eq_true rfl⟩) (hh_pV (ci := 5) (q := (RX5, TX5, 2)) (q0 := 0) rfl rfl (gT_c _) (gT_call hG.1 hS (va_free hD hS hA [0, 1] rfl)) hK hP hD [0, 1] rfl rfl) rfl rfl hl.1 rfl (lv_room (Nat.le_of_ble_eq_true rfl)) dL_setLoad_5 ⟨Nat.le_of_ble_eq_true rfl, Nat.le_of_ble_eq_true rfl⟩) hP hD hS hA [0, 1] [2] [1, 2, 0] rfl rfl rfl (by decide) rfl rfl rfl (fun E ce q9 H locs h1 hE hP hD hS hc1 hc2 hc3 => ?_) (fun H locs h1 hP hD hS => ?_)
  · skip
    have hc : 1 = 1 := rfl
    rw [hc] at hE
    subst hE
    refine vx_catch (name := exN 1) hown [] ⟨0, 10, 13, 13⟩ [⟨0, 10, 17, 15⟩] htab (fun _ h => nomatch h) rfl (by decide) (hts _ wd_2_22) (va_Nw.use rfl hG.1.2.1.2.2.2.2.1) hc1 hc2 hc3 ?_
    refine W.eq (g2 := F0 m 13 ls [.ref q9]) rfl ?_
    refine lv_astore (lv' := [(4, .ref q9), (0, .ref adB), (1, .int lp), (2, .int ldv), (3, .ref adU)]) hx hb dL_setLoad_13 hl (by decide) rfl (fun ls hl => ?_)
    refine lv_iconst (v := 1) hx hb dL_setLoad_15 (by decide) ?_
    refine W.widen (k := 1) (n := 6) (Nat.le_of_ble_eq_true rfl) (Nat.le_of_ble_eq_true rfl) ?_
    exact hh_reti hQ (((show (wr12 1) = 1 from by rw [hc]; rfl)).symm) hx hb hr hlocks hP hK hD hS dL_setLoad_16
  · skip
    exact absurd h1 (by decide)
theorem bd_setGains (lmo np ni nd : Int32) : f_X5_setGains_x lmo np ni nd = 0 ∨ f_X5_setGains_x lmo np ni nd = 2 ∨ f_X5_setGains_x lmo np ni nd = 3 := by
  have h0 := bd_requireGains np ni nd
  have h1 := bd_requireState (f_X5_setGains_j1_1 lmo)
  unfold f_X5_setGains_x; repeat' split
  all_goals omega
def f_L_setGains_kp (lmo kp np ni nd : Int32) : Int32 := if (f_X5_setGains_x lmo np ni nd) = 0 then np else kp
def f_L_setGains_ki (lmo ki np ni nd : Int32) : Int32 := if (f_X5_setGains_x lmo np ni nd) = 0 then ni else ki
def f_L_setGains_kd (lmo kd np ni nd : Int32) : Int32 := if (f_X5_setGains_x lmo np ni nd) = 0 then nd else kd
def f_L_setGains_kig (lmo kp kd : Int32) (ksp kig pme pmb : Int64) (np ni nd : Int32) : Int64 := if (f_X5_setGains_x lmo np ni nd) = 0 then (f_X0_changeGains_kig kp kd ksp kig pme pmb np nd) else kig
def f_L_setGains_sn (lmo sn np ni nd : Int32) : Int32 := if (f_X5_setGains_x lmo np ni nd) = 0 then (0 : Int32) else sn
def f_L_setGains_uo (lmo sn : Int32) (uo : Nat → Int64) (np ni nd : Int32) : Nat → Int64 := if (f_X5_setGains_x lmo np ni nd) = 0 then (vp_updL uo (0 : Int32).toNatClampNeg (sn.toInt64)) else uo
def f_L_setGains_r (lmo np ni nd : Int32) : Int32 := if (f_X5_setGains_x lmo np ni nd) = 0 then (0 : Int32) else (wr123 (f_X5_setGains_x lmo np ni nd))
set_option maxHeartbeats 4000000 in
set_option maxRecDepth 100000 in
theorem c_L_setGains (l : Launch) (dC : Nat → ClassId) (dI : Nat → Nat → Nat) (cI cJ cZ cO : ClassId) (adB adA : Nat) (bs : Int32) (lf : Nat → Option Nat) (adL adc adp ads adr : Nat) (lmo : Int32) (lha : Int64) (lfo lma lst : Int32) (lou : Int64) (kp ki kd klo khi kgu ksh khe : Int32) (ksp kig ksu kle klr : Int64) (kgo pa1 pa2 pb pdt pld : Int32) (pme pmb : Int64) (ado : Nat) (plt sn : Int32) (adsm adsp adsi adsd adU : Nat) (uo : Nat → Int64) (lp np ni nd : Int32) (sz : Nat) (hfl : l.stackTraces = false) (hl0 : ¬ lp < (0 : Int32)) (hl3 : lp < (3 : Int32)) (hlf : lf lp.toNatClampNeg = some adL) : Met l yL_setGains (Cond.codeWith yL_setGains cL_setGains 7 (some .int) [(0, 14, 17, 13), (0, 14, 21, 15), (0, 14, 25, 25)] :: wAll) ({ frames := 10, cells := 4, slots := 24, locals := 171 }) (va_Pc [.ref adB, .int lp, .int np, .int ni, .int nd, .ref adU] (gP (dC, dI) [zX5 adB adA bs, zAL cO adA 3 lf, zX1 adL adc adp ads adr lmo lha lfo lma lst lou, zX0 adc kp ki kd klo khi kgu ksh khe ksp kig ksu adp kle klr kgo, zX2 adp pa1 pa2 pb pdt pld pme pmb ado plt, zX4 ads sn adsm adsp adsi adsd, zAJ cJ adU 1 uo] (tyG cI cJ cZ cO) sz (gW (va_A [zX5 adB adA bs, zAL cO adA 3 lf, zX1 adL adc adp ads adr lmo lha lfo lma lst lou, zX0 adc kp ki kd klo khi kgu ksh khe ksp kig ksu adp kle klr kgo, zX2 adp pa1 pa2 pb pdt pld pme pmb ado plt, zX4 ads sn adsm adsp adsi adsd, zAJ cJ adU 1 uo] sz)))) (va_Qi (fun r (_ : Unit) => r = (f_L_setGains_r lmo np ni nd)) (fun _ t => gB (dC, dI) (va_A [zX5 adB adA bs, zAL cO adA 3 lf, zX1 adL adc adp ads adr lmo lha lfo lma lst lou, zX0 adc kp ki kd klo khi kgu ksh khe ksp kig ksu adp kle klr kgo, zX2 adp pa1 pa2 pb pdt pld pme pmb ado plt, zX4 ads sn adsm adsp adsi adsd, zAJ cJ adU 1 uo] sz) [zX5 adB adA bs, zAL cO adA 3 lf, zX1 adL adc adp ads adr lmo lha lfo lma lst lou, zX0 adc (f_L_setGains_kp lmo kp np ni nd) (f_L_setGains_ki lmo ki np ni nd) (f_L_setGains_kd lmo kd np ni nd) klo khi kgu ksh khe ksp (f_L_setGains_kig lmo kp kd ksp kig pme pmb np ni nd) ksu adp kle klr kgo, zX2 adp pa1 pa2 pb pdt pld pme pmb ado plt, zX4 ads (f_L_setGains_sn lmo sn np ni nd) adsm adsp adsi adsd, zAJ cJ adU 1 (f_L_setGains_uo lmo sn uo np ni nd)] (tyG cI cJ cZ cO) t) (va_A [zX5 adB adA bs, zAL cO adA 3 lf, zX1 adL adc adp ads adr lmo lha lfo lma lst lou, zX0 adc kp ki kd klo khi kgu ksh khe ksp kig ksu adp kle klr kgo, zX2 adp pa1 pa2 pb pdt pld pme pmb ado plt, zX4 ads sn adsm adsp adsi adsd, zAJ cJ adU 1 uo] sz)) 4 24 (va_A [zX5 adB adA bs, zAL cO adA 3 lf, zX1 adL adc adp ads adr lmo lha lfo lma lst lou, zX0 adc kp ki kd klo khi kgu ksh khe ksp kig ksu adp kle klr kgo, zX2 adp pa1 pa2 pb pdt pld pme pmb ado plt, zX4 ads sn adsm adsp adsi adsd, zAJ cJ adU 1 uo] sz) := by
  refine va_MetW (cc := cL_setGains) (maxL := 7) (ret := (some .int)) (by decide) rfl ?_
  intro p e s m args below meth c s₁ B hml hv
  obtain ⟨rfl, hsz, hP, hK, hD0, hG⟩ := hv
  have hx := B.exec
  have hb := B.bytes
  have hr := B.returns
  have hts := ht_of B.pre
  have hown : s.vm.findClass RL = some m.cls := findClass_of_methodNamed B.named
  have hlocks := B.notSynchronized
  have htab := vx_table (x := yL_setGains) B (hts _ wd_2_131)
  subst hsz
  have hD := hD0.self (sz := s.heap.size)
  generalize hAe : va_A [zX5 adB adA bs, zAL cO adA 3 lf, zX1 adL adc adp ads adr lmo lha lfo lma lst lou, zX0 adc kp ki kd klo khi kgu ksh khe ksp kig ksu adp kle klr kgo, zX2 adp pa1 pa2 pb pdt pld pme pmb ado plt, zX4 ads sn adsm adsp adsi adsd, zAJ cJ adU 1 uo] s.heap.size = A at hD hG ⊢
  have hA : ∀ q : Nat, s.heap.size ≤ q → A q := fun q h => by rw [← hAe]; exact Or.inr h
  have hS : va_S A s.heap s.heap [] := va_S.rf
  have hP : va_P (dC, dI) vwCl [zX5 adB adA bs, zAL cO adA 3 lf, zX1 adL adc adp ads adr lmo lha lfo lma lst lou, zX0 adc kp ki kd klo khi kgu ksh khe ksp kig ksu adp kle klr kgo, zX2 adp pa1 pa2 pb pdt pld pme pmb ado plt, zX4 ads sn adsm adsp adsi adsd, zAJ cJ adU 1 uo] s.heap := hP
  have hl := lv_entry ([.ref adB, .int lp, .int np, .int ni, .int nd, .ref adU]) (n := 7) (Nat.le_of_ble_eq_true rfl)
  rw [lg_entry_eq]
  generalize (lg_sl ([.ref adB, .int lp, .int np, .int ni, .int nd, .ref adU]) ++ List.replicate (7 - (lg_sl ([.ref adB, .int lp, .int np, .int ni, .int nd, .ref adU])).length) Slot.unset).toArray = ls at hl ⊢
  have hl : lv_has ls 7 [(0, .ref adB), (1, .int lp), (2, .int np), (3, .int ni), (4, .int nd), (5, .ref adU)] := hl
  refine hh_name (fun Q hQ => ?_)
  refine lv_aload hx hb dL_setGains_0 (lv_at hl 5 rfl) ?_
  refine lv_iconst (v := 0) hx hb dL_setGains_2 (by decide) ?_
  refine lv_aload_n hx hb dL_setGains_3 rfl (lv_at hl 0 rfl) ?_
  refine lv_iload_n hx hb dL_setGains_4 rfl (lv_at hl 1 rfl) ?_
  refine lv_iload_n hx hb dL_setGains_5 rfl (lv_at hl 2 rfl) ?_
  refine lv_iload_n hx hb dL_setGains_6 rfl (lv_at hl 3 rfl) ?_
  refine lv_iload hx hb dL_setGains_7 (lv_at hl 4 rfl) ?_
  refine hh_xcalli (w2 := [zX5 adB adA bs, zAL cO adA 3 lf, zX1 adL adc adp ads adr lmo lha lfo lma lst lou, zX0 adc np ni nd klo khi kgu ksh khe ksp (f_X0_changeGains_kig kp kd ksp kig pme pmb np nd) ksu adp kle klr kgo, zX2 adp pa1 pa2 pb pdt pld pme pmb ado plt, zX4 ads (0 : Int32) adsm adsp adsi adsd, zAJ cJ adU 1 uo]) (vx_runV (As := [.int lp, .int np, .int ni, .int nd]) (rest := [.int (0 : Int32), .ref adU]) ⟨hx, hb, hml, hown, hts⟩ (c_X5_setGains l dC dI cI cJ cZ cO adB adA bs lf adL adc adp ads adr lmo lha lfo lma lst lou kp ki kd klo khi kgu ksh khe ksp kig ksu kle klr kgo pa1 pa2 pb pdt pld pme pmb ado plt sn adsm adsp adsi adsd lp np ni nd _ hfl hl0 hl3 hlf) (cwV 4 hts (gd_V wd_2_133 wd_2_134 wd_2_135 wd_1_1 wd_2_136) rfl rfl rfl (by decide +kernel) ⟨Nat.le_of_ble_eq_true rfl, Nat.le_of_ble_eq_true rfl⟩) (hh_pV (ci := 5) (q := (RX5, TX5, 2)) (q0 := 0) rfl rfl (gT_c _) (gT_call hG.1 hS (va_free hD hS hA [0, 1, 2, 3, 4, 5] rfl)) hK hP hD [0, 1, 2, 3, 4, 5] rfl rfl) rfl rfl hl.1 rfl (lv_room (Nat.le_of_ble_eq_true rfl)) dL_setGains_9 ⟨Nat.le_of_ble_eq_true rfl, Nat.le_of_ble_eq_true rfl⟩) hP hD hS hA [0, 1, 2, 3, 4, 5] [6] [1, 2, 3, 4, 5, 6, 0] rfl rfl rfl (by decide) rfl rfl rfl (fun E ce q9 H locs h1 hE hP hD hS hc1 hc2 hc3 => ?_) (fun H locs h1 hP hD hS => ?_)
  · skip
    rcases bd_setGains lmo np ni nd with hc | hc | hc
    · exact absurd hc h1
    · skip
      rw [hc] at hE
      subst hE
      refine vx_catch (name := exN 2) hown [⟨0, 14, 17, 13⟩] ⟨0, 14, 21, 15⟩ [⟨0, 14, 25, 25⟩] htab (List.forall_mem_cons.mpr ⟨Or.inr ⟨by decide, exN 1, hts _ wd_2_22, hG.2.1⟩, fun _ h => nomatch h⟩) rfl (by decide) (hts _ wd_2_23) (va_Nw.use rfl hG.1.2.1.2.2.2.2.2.1) hc1 hc2 hc3 ?_
      refine W.eq (g2 := F0 m 21 ls [.ref q9]) rfl ?_
      refine lv_astore (lv' := [(6, .ref q9), (0, .ref adB), (1, .int lp), (2, .int np), (3, .int ni), (4, .int nd), (5, .ref adU)]) hx hb dL_setGains_21 hl (by decide) rfl (fun ls hl => ?_)
      refine lv_iconst (v := 2) hx hb dL_setGains_23 (by decide) ?_
      refine W.widen (k := 4) (n := 24) (Nat.le_of_ble_eq_true rfl) (Nat.le_of_ble_eq_true rfl) ?_
      exact hh_reti hQ (((if_neg h1).trans (show (wr123 (f_X5_setGains_x lmo np ni nd)) = 2 from by rw [hc]; rfl)).symm) hx hb hr hlocks (by rw [show (f_L_setGains_kp lmo kp np ni nd) = kp from if_neg h1, show (f_L_setGains_ki lmo ki np ni nd) = ki from if_neg h1, show (f_L_setGains_kd lmo kd np ni nd) = kd from if_neg h1, show (f_L_setGains_kig lmo kp kd ksp kig pme pmb np ni nd) = kig from if_neg h1, show (f_L_setGains_sn lmo sn np ni nd) = sn from if_neg h1, show (f_L_setGains_uo lmo sn uo np ni nd) = uo from if_neg h1]; exact hP) hK (by rw [show (f_L_setGains_kp lmo kp np ni nd) = kp from if_neg h1, show (f_L_setGains_ki lmo ki np ni nd) = ki from if_neg h1, show (f_L_setGains_kd lmo kd np ni nd) = kd from if_neg h1, show (f_L_setGains_kig lmo kp kd ksp kig pme pmb np ni nd) = kig from if_neg h1, show (f_L_setGains_sn lmo sn np ni nd) = sn from if_neg h1, show (f_L_setGains_uo lmo sn uo np ni nd) = uo from if_neg h1]; exact hD) hS dL_setGains_24
    · skip
      rw [hc] at hE
      subst hE
      refine vx_catch (name := exN 3) hown [⟨0, 14, 17, 13⟩, ⟨0, 14, 21, 15⟩] ⟨0, 14, 25, 25⟩ [] htab (List.forall_mem_cons.mpr ⟨Or.inr ⟨by decide, exN 1, hts _ wd_2_22, hG.2.2.1⟩, List.forall_mem_cons.mpr ⟨Or.inr ⟨by decide, exN 2, hts _ wd_2_23, hG.2.2.2⟩, fun _ h => nomatch h⟩⟩) rfl (by decide) (hts _ wd_2_132) (va_Nw.use rfl hG.1.2.1.2.2.2.2.2.2.1) hc1 hc2 hc3 ?_
      refine W.eq (g2 := F0 m 25 ls [.ref q9]) rfl ?_
      refine lv_astore (lv' := [(6, .ref q9), (0, .ref adB), (1, .int lp), (2, .int np), (3, .int ni), (4, .int nd), (5, .ref adU)]) hx hb dL_setGains_25 hl (by decide) rfl (fun ls hl => ?_)
      refine lv_iconst (v := 3) hx hb dL_setGains_27 (by decide) ?_
      refine W.widen (k := 4) (n := 24) (Nat.le_of_ble_eq_true rfl) (Nat.le_of_ble_eq_true rfl) ?_
      exact hh_reti hQ (((if_neg h1).trans (show (wr123 (f_X5_setGains_x lmo np ni nd)) = 3 from by rw [hc]; rfl)).symm) hx hb hr hlocks (by rw [show (f_L_setGains_kp lmo kp np ni nd) = kp from if_neg h1, show (f_L_setGains_ki lmo ki np ni nd) = ki from if_neg h1, show (f_L_setGains_kd lmo kd np ni nd) = kd from if_neg h1, show (f_L_setGains_kig lmo kp kd ksp kig pme pmb np ni nd) = kig from if_neg h1, show (f_L_setGains_sn lmo sn np ni nd) = sn from if_neg h1, show (f_L_setGains_uo lmo sn uo np ni nd) = uo from if_neg h1]; exact hP) hK (by rw [show (f_L_setGains_kp lmo kp np ni nd) = kp from if_neg h1, show (f_L_setGains_ki lmo ki np ni nd) = ki from if_neg h1, show (f_L_setGains_kd lmo kd np ni nd) = kd from if_neg h1, show (f_L_setGains_kig lmo kp kd ksp kig pme pmb np ni nd) = kig from if_neg h1, show (f_L_setGains_sn lmo sn np ni nd) = sn from if_neg h1, show (f_L_setGains_uo lmo sn uo np ni nd) = uo from if_neg h1]; exact hD) hS dL_setGains_28
  · skip
    refine lv_i2l hx hb dL_setGains_12 rfl ?_
    refine va_last hx hb hK hP hD hS 6 1 rfl rfl (i := (0 : Int32)) (ix_d (by decide)) dL_setGains_13 (fun H locs hP hD hS => ?_)
    have hP : va_P (dC, dI) vwCl [zX5 adB adA bs, zAL cO adA 3 lf, zX1 adL adc adp ads adr lmo lha lfo lma lst lou, zX0 adc np ni nd klo khi kgu ksh khe ksp (f_X0_changeGains_kig kp kd ksp kig pme pmb np nd) ksu adp kle klr kgo, zX2 adp pa1 pa2 pb pdt pld pme pmb ado plt, zX4 ads (0 : Int32) adsm adsp adsi adsd, zAJ cJ adU 1 (vp_updL uo (0 : Int32).toNatClampNeg (sn.toInt64))] H := hP
    have hD : va_D A [zX5 adB adA bs, zAL cO adA 3 lf, zX1 adL adc adp ads adr lmo lha lfo lma lst lou, zX0 adc np ni nd klo khi kgu ksh khe ksp (f_X0_changeGains_kig kp kd ksp kig pme pmb np nd) ksu adp kle klr kgo, zX2 adp pa1 pa2 pb pdt pld pme pmb ado plt, zX4 ads (0 : Int32) adsm adsp adsi adsd, zAJ cJ adU 1 (vp_updL uo (0 : Int32).toNatClampNeg (sn.toInt64))] := hD
    refine lv_goto (tgt := 29) hx hb dL_setGains_14 (by decide) ?_
    refine lv_iconst (v := 0) hx hb dL_setGains_29 (by decide) ?_
    exact hh_reti hQ ((if_pos h1).symm) hx hb hr hlocks (by rw [show (f_L_setGains_kp lmo kp np ni nd) = np from if_pos h1, show (f_L_setGains_ki lmo ki np ni nd) = ni from if_pos h1, show (f_L_setGains_kd lmo kd np ni nd) = nd from if_pos h1, show (f_L_setGains_kig lmo kp kd ksp kig pme pmb np ni nd) = (f_X0_changeGains_kig kp kd ksp kig pme pmb np nd) from if_pos h1, show (f_L_setGains_sn lmo sn np ni nd) = (0 : Int32) from if_pos h1, show (f_L_setGains_uo lmo sn uo np ni nd) = (vp_updL uo (0 : Int32).toNatClampNeg (sn.toInt64)) from if_pos h1]; exact hP) hK (by rw [show (f_L_setGains_kp lmo kp np ni nd) = np from if_pos h1, show (f_L_setGains_ki lmo ki np ni nd) = ni from if_pos h1, show (f_L_setGains_kd lmo kd np ni nd) = nd from if_pos h1, show (f_L_setGains_kig lmo kp kd ksp kig pme pmb np ni nd) = (f_X0_changeGains_kig kp kd ksp kig pme pmb np nd) from if_pos h1, show (f_L_setGains_sn lmo sn np ni nd) = (0 : Int32) from if_pos h1, show (f_L_setGains_uo lmo sn uo np ni nd) = (vp_updL uo (0 : Int32).toNatClampNeg (sn.toInt64)) from if_pos h1]; exact hD) hS dL_setGains_30
set_option maxHeartbeats 4000000 in
set_option maxRecDepth 100000 in
theorem c_L_setGains_o (l : Launch) (dC : Nat → ClassId) (dI : Nat → Nat → Nat) (cI cJ cZ cO : ClassId) (adB adA : Nat) (bs : Int32) (lf : Nat → Option Nat) (adU : Nat) (uo : Nat → Int64) (lp np ni nd : Int32) (sz : Nat) (hfl : l.stackTraces = false) (hlo : ¬ lp < (0 : Int32) → ¬ lp < (3 : Int32)) : Met l yL_setGains (Cond.codeWith yL_setGains cL_setGains 7 (some .int) [(0, 14, 17, 13), (0, 14, 21, 15), (0, 14, 25, 25)] :: wAll) ({ frames := 8, cells := 1, slots := 6, locals := 128 }) (va_Pc [.ref adB, .int lp, .int np, .int ni, .int nd, .ref adU] (gP (dC, dI) [zX5 adB adA bs, zAL cO adA 3 lf, zAJ cJ adU 1 uo] (tyG cI cJ cZ cO) sz (gW (va_A [zX5 adB adA bs, zAL cO adA 3 lf, zAJ cJ adU 1 uo] sz)))) (va_Qi (fun r (_ : Unit) => r = (wr123 1)) (fun _ t => gB (dC, dI) (va_A [zX5 adB adA bs, zAL cO adA 3 lf, zAJ cJ adU 1 uo] sz) [zX5 adB adA bs, zAL cO adA 3 lf, zAJ cJ adU 1 uo] (tyG cI cJ cZ cO) t) (va_A [zX5 adB adA bs, zAL cO adA 3 lf, zAJ cJ adU 1 uo] sz)) 1 6 (va_A [zX5 adB adA bs, zAL cO adA 3 lf, zAJ cJ adU 1 uo] sz) := by
  refine va_MetW (cc := cL_setGains) (maxL := 7) (ret := (some .int)) (by decide) rfl ?_
  intro p e s m args below meth c s₁ B hml hv
  obtain ⟨rfl, hsz, hP, hK, hD0, hG⟩ := hv
  have hx := B.exec
  have hb := B.bytes
  have hr := B.returns
  have hts := ht_of B.pre
  have hown : s.vm.findClass RL = some m.cls := findClass_of_methodNamed B.named
  have hlocks := B.notSynchronized
  have htab := vx_table (x := yL_setGains) B (hts _ wd_2_131)
  subst hsz
  have hD := hD0.self (sz := s.heap.size)
  generalize hAe : va_A [zX5 adB adA bs, zAL cO adA 3 lf, zAJ cJ adU 1 uo] s.heap.size = A at hD hG ⊢
  have hA : ∀ q : Nat, s.heap.size ≤ q → A q := fun q h => by rw [← hAe]; exact Or.inr h
  have hS : va_S A s.heap s.heap [] := va_S.rf
  have hP : va_P (dC, dI) vwCl [zX5 adB adA bs, zAL cO adA 3 lf, zAJ cJ adU 1 uo] s.heap := hP
  have hl := lv_entry ([.ref adB, .int lp, .int np, .int ni, .int nd, .ref adU]) (n := 7) (Nat.le_of_ble_eq_true rfl)
  rw [lg_entry_eq]
  generalize (lg_sl ([.ref adB, .int lp, .int np, .int ni, .int nd, .ref adU]) ++ List.replicate (7 - (lg_sl ([.ref adB, .int lp, .int np, .int ni, .int nd, .ref adU])).length) Slot.unset).toArray = ls at hl ⊢
  have hl : lv_has ls 7 [(0, .ref adB), (1, .int lp), (2, .int np), (3, .int ni), (4, .int nd), (5, .ref adU)] := hl
  refine hh_name (fun Q hQ => ?_)
  refine lv_aload hx hb dL_setGains_0 (lv_at hl 5 rfl) ?_
  refine lv_iconst (v := 0) hx hb dL_setGains_2 (by decide) ?_
  refine lv_aload_n hx hb dL_setGains_3 rfl (lv_at hl 0 rfl) ?_
  refine lv_iload_n hx hb dL_setGains_4 rfl (lv_at hl 1 rfl) ?_
  refine lv_iload_n hx hb dL_setGains_5 rfl (lv_at hl 2 rfl) ?_
  refine lv_iload_n hx hb dL_setGains_6 rfl (lv_at hl 3 rfl) ?_
  refine lv_iload hx hb dL_setGains_7 (lv_at hl 4 rfl) ?_
  refine hh_xcalli (w2 := [zX5 adB adA bs, zAL cO adA 3 lf, zAJ cJ adU 1 uo]) (vx_runV (As := [.int lp, .int np, .int ni, .int nd]) (rest := [.int (0 : Int32), .ref adU]) ⟨hx, hb, hml, hown, hts⟩ (c_X5_setGains_o l dC dI cI cJ cZ cO adB adA bs lf lp np ni nd _ hfl hlo) (cwV 4 hts (gd_V wd_2_133 wd_2_134 wd_2_135 wd_1_1 wd_2_136) rfl rfl rfl (by decide +kernel) ⟨Nat.le_of_ble_eq_true rfl, Nat.le_of_ble_eq_true rfl⟩) (hh_pV (ci := 5) (q := (RX5, TX5, 2)) (q0 := 0) rfl rfl (gT_c _) (gT_call hG.1 hS (va_free hD hS hA [0, 1] rfl)) hK hP hD [0, 1] rfl rfl) rfl rfl hl.1 rfl (lv_room (Nat.le_of_ble_eq_true rfl)) dL_setGains_9 ⟨Nat.le_of_ble_eq_true rfl, Nat.le_of_ble_eq_true rfl⟩) hP hD hS hA [0, 1] [2] [1, 2, 0] rfl rfl rfl (by decide) rfl rfl rfl (fun E ce q9 H locs h1 hE hP hD hS hc1 hc2 hc3 => ?_) (fun H locs h1 hP hD hS => ?_)
  · skip
    have hc : 1 = 1 := rfl
    rw [hc] at hE
    subst hE
    refine vx_catch (name := exN 1) hown [] ⟨0, 14, 17, 13⟩ [⟨0, 14, 21, 15⟩, ⟨0, 14, 25, 25⟩] htab (fun _ h => nomatch h) rfl (by decide) (hts _ wd_2_22) (va_Nw.use rfl hG.1.2.1.2.2.2.2.1) hc1 hc2 hc3 ?_
    refine W.eq (g2 := F0 m 17 ls [.ref q9]) rfl ?_
    refine lv_astore (lv' := [(6, .ref q9), (0, .ref adB), (1, .int lp), (2, .int np), (3, .int ni), (4, .int nd), (5, .ref adU)]) hx hb dL_setGains_17 hl (by decide) rfl (fun ls hl => ?_)
    refine lv_iconst (v := 1) hx hb dL_setGains_19 (by decide) ?_
    refine W.widen (k := 1) (n := 6) (Nat.le_of_ble_eq_true rfl) (Nat.le_of_ble_eq_true rfl) ?_
    exact hh_reti hQ (((show (wr123 1) = 1 from by rw [hc]; rfl)).symm) hx hb hr hlocks hP hK hD hS dL_setGains_20
  · skip
    exact absurd h1 (by decide)
theorem bd_addPoint (sn : Int32) (gm : Nat → Int32) (mev np ni nd : Int32) : f_X5_addPoint_x sn gm mev np ni nd = 0 ∨ f_X5_addPoint_x sn gm mev np ni nd = 2 ∨ f_X5_addPoint_x sn gm mev np ni nd = 3 := by
  have h0 := bd_requireWithin mev (-1000000 : Int32) (1000000 : Int32)
  have h1 := bd_requireGains np ni nd
  have h2 := bd_requireArgument (f_X4_endsBelow_j1_1 sn gm mev)
  have h3 := bd_requireState (f_X5_addPoint_j1_1 sn)
  unfold f_X5_addPoint_x; repeat' split
  all_goals omega
def f_L_addPoint_sn (sn : Int32) (gm : Nat → Int32) (mev np ni nd : Int32) : Int32 := if (f_X5_addPoint_x sn gm mev np ni nd) = 0 then (f_X4_addLast_j1_1 sn) else sn
def f_L_addPoint_gm (sn : Int32) (gm : Nat → Int32) (mev np ni nd : Int32) : Nat → Int32 := if (f_X5_addPoint_x sn gm mev np ni nd) = 0 then (f_X4_addLast_j1_2 sn gm mev) else gm
def f_L_addPoint_gp (sn : Int32) (gm gp : Nat → Int32) (mev np ni nd : Int32) : Nat → Int32 := if (f_X5_addPoint_x sn gm mev np ni nd) = 0 then (f_X4_addLast_j1_3 sn gp np) else gp
def f_L_addPoint_gi (sn : Int32) (gm gi : Nat → Int32) (mev np ni nd : Int32) : Nat → Int32 := if (f_X5_addPoint_x sn gm mev np ni nd) = 0 then (f_X4_addLast_j1_4 sn gi ni) else gi
def f_L_addPoint_gd (sn : Int32) (gm gd : Nat → Int32) (mev np ni nd : Int32) : Nat → Int32 := if (f_X5_addPoint_x sn gm mev np ni nd) = 0 then (f_X4_addLast_j1_5 sn gd nd) else gd
def f_L_addPoint_uo (sn : Int32) (gm : Nat → Int32) (uo : Nat → Int64) (mev np ni nd : Int32) : Nat → Int64 := if (f_X5_addPoint_x sn gm mev np ni nd) = 0 then (vp_updL uo (0 : Int32).toNatClampNeg ((f_X4_addLast_j1_1 sn).toInt64)) else uo
def f_L_addPoint_r (sn : Int32) (gm : Nat → Int32) (mev np ni nd : Int32) : Int32 := if (f_X5_addPoint_x sn gm mev np ni nd) = 0 then (0 : Int32) else (wr123 (f_X5_addPoint_x sn gm mev np ni nd))
set_option maxHeartbeats 4000000 in
set_option maxRecDepth 100000 in
theorem c_L_addPoint (l : Launch) (dC : Nat → ClassId) (dI : Nat → Nat → Nat) (cI cJ cZ cO : ClassId) (adB adA : Nat) (bs : Int32) (lf : Nat → Option Nat) (adL adc adp ads adr : Nat) (lmo : Int32) (lha : Int64) (lfo lma lst : Int32) (lou : Int64) (sn : Int32) (adsm adsp adsi adsd : Nat) (gm gp gi gd : Nat → Int32) (adU : Nat) (uo : Nat → Int64) (lp mev np ni nd : Int32) (sz : Nat) (hfl : l.stackTraces = false) (hl0 : ¬ lp < (0 : Int32)) (hl3 : lp < (3 : Int32)) (hlf : lf lp.toNatClampNeg = some adL) : Met l yL_addPoint (Cond.codeWith yL_addPoint cL_addPoint 8 (some .int) [(0, 16, 19, 13), (0, 16, 23, 15), (0, 16, 27, 25)] :: wAll) ({ frames := 10, cells := 6, slots := 36, locals := 172 }) (va_Pc [.ref adB, .int lp, .int mev, .int np, .int ni, .int nd, .ref adU] (gP (dC, dI) [zX5 adB adA bs, zAL cO adA 3 lf, zX1 adL adc adp ads adr lmo lha lfo lma lst lou, zX4 ads sn adsm adsp adsi adsd, zAI cI adsm 5 gm, zAI cI adsp 5 gp, zAI cI adsi 5 gi, zAI cI adsd 5 gd, zAJ cJ adU 1 uo] (tyG cI cJ cZ cO) sz (gW (va_A [zX5 adB adA bs, zAL cO adA 3 lf, zX1 adL adc adp ads adr lmo lha lfo lma lst lou, zX4 ads sn adsm adsp adsi adsd, zAI cI adsm 5 gm, zAI cI adsp 5 gp, zAI cI adsi 5 gi, zAI cI adsd 5 gd, zAJ cJ adU 1 uo] sz)))) (va_Qi (fun r (_ : Unit) => r = (f_L_addPoint_r sn gm mev np ni nd)) (fun _ t => gB (dC, dI) (va_A [zX5 adB adA bs, zAL cO adA 3 lf, zX1 adL adc adp ads adr lmo lha lfo lma lst lou, zX4 ads sn adsm adsp adsi adsd, zAI cI adsm 5 gm, zAI cI adsp 5 gp, zAI cI adsi 5 gi, zAI cI adsd 5 gd, zAJ cJ adU 1 uo] sz) [zX5 adB adA bs, zAL cO adA 3 lf, zX1 adL adc adp ads adr lmo lha lfo lma lst lou, zX4 ads (f_L_addPoint_sn sn gm mev np ni nd) adsm adsp adsi adsd, zAI cI adsm 5 (f_L_addPoint_gm sn gm mev np ni nd), zAI cI adsp 5 (f_L_addPoint_gp sn gm gp mev np ni nd), zAI cI adsi 5 (f_L_addPoint_gi sn gm gi mev np ni nd), zAI cI adsd 5 (f_L_addPoint_gd sn gm gd mev np ni nd), zAJ cJ adU 1 (f_L_addPoint_uo sn gm uo mev np ni nd)] (tyG cI cJ cZ cO) t) (va_A [zX5 adB adA bs, zAL cO adA 3 lf, zX1 adL adc adp ads adr lmo lha lfo lma lst lou, zX4 ads sn adsm adsp adsi adsd, zAI cI adsm 5 gm, zAI cI adsp 5 gp, zAI cI adsi 5 gi, zAI cI adsd 5 gd, zAJ cJ adU 1 uo] sz)) 6 36 (va_A [zX5 adB adA bs, zAL cO adA 3 lf, zX1 adL adc adp ads adr lmo lha lfo lma lst lou, zX4 ads sn adsm adsp adsi adsd, zAI cI adsm 5 gm, zAI cI adsp 5 gp, zAI cI adsi 5 gi, zAI cI adsd 5 gd, zAJ cJ adU 1 uo] sz) := by
  refine va_MetW (cc := cL_addPoint) (maxL := 8) (ret := (some .int)) (by decide) rfl ?_
  intro p e s m args below meth c s₁ B hml hv
  obtain ⟨rfl, hsz, hP, hK, hD0, hG⟩ := hv
  have hx := B.exec
  have hb := B.bytes
  have hr := B.returns
  have hts := ht_of B.pre
  have hown : s.vm.findClass RL = some m.cls := findClass_of_methodNamed B.named
  have hlocks := B.notSynchronized
  have htab := vx_table (x := yL_addPoint) B (hts _ wd_2_179)
  subst hsz
  have hD := hD0.self (sz := s.heap.size)
  generalize hAe : va_A [zX5 adB adA bs, zAL cO adA 3 lf, zX1 adL adc adp ads adr lmo lha lfo lma lst lou, zX4 ads sn adsm adsp adsi adsd, zAI cI adsm 5 gm, zAI cI adsp 5 gp, zAI cI adsi 5 gi, zAI cI adsd 5 gd, zAJ cJ adU 1 uo] s.heap.size = A at hD hG ⊢
  have hA : ∀ q : Nat, s.heap.size ≤ q → A q := fun q h => by rw [← hAe]; exact Or.inr h
  have hS : va_S A s.heap s.heap [] := va_S.rf
  have hP : va_P (dC, dI) vwCl [zX5 adB adA bs, zAL cO adA 3 lf, zX1 adL adc adp ads adr lmo lha lfo lma lst lou, zX4 ads sn adsm adsp adsi adsd, zAI cI adsm 5 gm, zAI cI adsp 5 gp, zAI cI adsi 5 gi, zAI cI adsd 5 gd, zAJ cJ adU 1 uo] s.heap := hP
  have hl := lv_entry ([.ref adB, .int lp, .int mev, .int np, .int ni, .int nd, .ref adU]) (n := 8) (Nat.le_of_ble_eq_true rfl)
  rw [lg_entry_eq]
  generalize (lg_sl ([.ref adB, .int lp, .int mev, .int np, .int ni, .int nd, .ref adU]) ++ List.replicate (8 - (lg_sl ([.ref adB, .int lp, .int mev, .int np, .int ni, .int nd, .ref adU])).length) Slot.unset).toArray = ls at hl ⊢
  have hl : lv_has ls 8 [(0, .ref adB), (1, .int lp), (2, .int mev), (3, .int np), (4, .int ni), (5, .int nd), (6, .ref adU)] := hl
  refine hh_name (fun Q hQ => ?_)
  refine lv_aload hx hb dL_addPoint_0 (lv_at hl 6 rfl) ?_
  refine lv_iconst (v := 0) hx hb dL_addPoint_2 (by decide) ?_
  refine lv_aload_n hx hb dL_addPoint_3 rfl (lv_at hl 0 rfl) ?_
  refine lv_iload_n hx hb dL_addPoint_4 rfl (lv_at hl 1 rfl) ?_
  refine lv_iload_n hx hb dL_addPoint_5 rfl (lv_at hl 2 rfl) ?_
  refine lv_iload_n hx hb dL_addPoint_6 rfl (lv_at hl 3 rfl) ?_
  refine lv_iload hx hb dL_addPoint_7 (lv_at hl 4 rfl) ?_
  refine lv_iload hx hb dL_addPoint_9 (lv_at hl 5 rfl) ?_
  refine hh_xcalli (w2 := [zX5 adB adA bs, zAL cO adA 3 lf, zX1 adL adc adp ads adr lmo lha lfo lma lst lou, zX4 ads (f_X4_addLast_j1_1 sn) adsm adsp adsi adsd, zAI cI adsm 5 (f_X4_addLast_j1_2 sn gm mev), zAI cI adsp 5 (f_X4_addLast_j1_3 sn gp np), zAI cI adsi 5 (f_X4_addLast_j1_4 sn gi ni), zAI cI adsd 5 (f_X4_addLast_j1_5 sn gd nd), zAJ cJ adU 1 uo]) (vx_runV (As := [.int lp, .int mev, .int np, .int ni, .int nd]) (rest := [.int (0 : Int32), .ref adU]) ⟨hx, hb, hml, hown, hts⟩ (c_X5_addPoint l dC dI cI cJ cZ cO adB adA bs lf adL adc adp ads adr lmo lha lfo lma lst lou sn adsm adsp adsi adsd gm gp gi gd lp mev np ni nd _ hfl hl0 hl3 hlf) (cwV 5 hts (gd_V wd_2_180 wd_2_181 wd_2_182 wd_1_1 wd_2_183) rfl rfl rfl (by decide +kernel) ⟨Nat.le_of_ble_eq_true rfl, Nat.le_of_ble_eq_true rfl⟩) (hh_pV (ci := 5) (q := (RX5, TX5, 2)) (q0 := 0) rfl rfl (gT_c _) (gT_call hG.1 hS (va_free hD hS hA [0, 1, 2, 3, 4, 5, 6, 7] rfl)) hK hP hD [0, 1, 2, 3, 4, 5, 6, 7] rfl rfl) rfl rfl hl.1 rfl (lv_room (Nat.le_of_ble_eq_true rfl)) dL_addPoint_11 ⟨Nat.le_of_ble_eq_true rfl, Nat.le_of_ble_eq_true rfl⟩) hP hD hS hA [0, 1, 2, 3, 4, 5, 6, 7] [8] [1, 2, 3, 4, 5, 6, 7, 8, 0] rfl rfl rfl (by decide) rfl rfl rfl (fun E ce q9 H locs h1 hE hP hD hS hc1 hc2 hc3 => ?_) (fun H locs h1 hP hD hS => ?_)
  · skip
    rcases bd_addPoint sn gm mev np ni nd with hc | hc | hc
    · exact absurd hc h1
    · skip
      rw [hc] at hE
      subst hE
      refine vx_catch (name := exN 2) hown [⟨0, 16, 19, 13⟩] ⟨0, 16, 23, 15⟩ [⟨0, 16, 27, 25⟩] htab (List.forall_mem_cons.mpr ⟨Or.inr ⟨by decide, exN 1, hts _ wd_2_22, hG.2.1⟩, fun _ h => nomatch h⟩) rfl (by decide) (hts _ wd_2_23) (va_Nw.use rfl hG.1.2.1.2.2.2.2.2.1) hc1 hc2 hc3 ?_
      refine W.eq (g2 := F0 m 23 ls [.ref q9]) rfl ?_
      refine lv_astore (lv' := [(7, .ref q9), (0, .ref adB), (1, .int lp), (2, .int mev), (3, .int np), (4, .int ni), (5, .int nd), (6, .ref adU)]) hx hb dL_addPoint_23 hl (by decide) rfl (fun ls hl => ?_)
      refine lv_iconst (v := 2) hx hb dL_addPoint_25 (by decide) ?_
      refine W.widen (k := 6) (n := 36) (Nat.le_of_ble_eq_true rfl) (Nat.le_of_ble_eq_true rfl) ?_
      exact hh_reti hQ (((if_neg h1).trans (show (wr123 (f_X5_addPoint_x sn gm mev np ni nd)) = 2 from by rw [hc]; rfl)).symm) hx hb hr hlocks (by rw [show (f_L_addPoint_sn sn gm mev np ni nd) = sn from if_neg h1, show (f_L_addPoint_gm sn gm mev np ni nd) = gm from if_neg h1, show (f_L_addPoint_gp sn gm gp mev np ni nd) = gp from if_neg h1, show (f_L_addPoint_gi sn gm gi mev np ni nd) = gi from if_neg h1, show (f_L_addPoint_gd sn gm gd mev np ni nd) = gd from if_neg h1, show (f_L_addPoint_uo sn gm uo mev np ni nd) = uo from if_neg h1]; exact hP) hK (by rw [show (f_L_addPoint_sn sn gm mev np ni nd) = sn from if_neg h1, show (f_L_addPoint_gm sn gm mev np ni nd) = gm from if_neg h1, show (f_L_addPoint_gp sn gm gp mev np ni nd) = gp from if_neg h1, show (f_L_addPoint_gi sn gm gi mev np ni nd) = gi from if_neg h1, show (f_L_addPoint_gd sn gm gd mev np ni nd) = gd from if_neg h1, show (f_L_addPoint_uo sn gm uo mev np ni nd) = uo from if_neg h1]; exact hD) hS dL_addPoint_26
    · skip
      rw [hc] at hE
      subst hE
      refine vx_catch (name := exN 3) hown [⟨0, 16, 19, 13⟩, ⟨0, 16, 23, 15⟩] ⟨0, 16, 27, 25⟩ [] htab (List.forall_mem_cons.mpr ⟨Or.inr ⟨by decide, exN 1, hts _ wd_2_22, hG.2.2.1⟩, List.forall_mem_cons.mpr ⟨Or.inr ⟨by decide, exN 2, hts _ wd_2_23, hG.2.2.2⟩, fun _ h => nomatch h⟩⟩) rfl (by decide) (hts _ wd_2_132) (va_Nw.use rfl hG.1.2.1.2.2.2.2.2.2.1) hc1 hc2 hc3 ?_
      refine W.eq (g2 := F0 m 27 ls [.ref q9]) rfl ?_
      refine lv_astore (lv' := [(7, .ref q9), (0, .ref adB), (1, .int lp), (2, .int mev), (3, .int np), (4, .int ni), (5, .int nd), (6, .ref adU)]) hx hb dL_addPoint_27 hl (by decide) rfl (fun ls hl => ?_)
      refine lv_iconst (v := 3) hx hb dL_addPoint_29 (by decide) ?_
      refine W.widen (k := 6) (n := 36) (Nat.le_of_ble_eq_true rfl) (Nat.le_of_ble_eq_true rfl) ?_
      exact hh_reti hQ (((if_neg h1).trans (show (wr123 (f_X5_addPoint_x sn gm mev np ni nd)) = 3 from by rw [hc]; rfl)).symm) hx hb hr hlocks (by rw [show (f_L_addPoint_sn sn gm mev np ni nd) = sn from if_neg h1, show (f_L_addPoint_gm sn gm mev np ni nd) = gm from if_neg h1, show (f_L_addPoint_gp sn gm gp mev np ni nd) = gp from if_neg h1, show (f_L_addPoint_gi sn gm gi mev np ni nd) = gi from if_neg h1, show (f_L_addPoint_gd sn gm gd mev np ni nd) = gd from if_neg h1, show (f_L_addPoint_uo sn gm uo mev np ni nd) = uo from if_neg h1]; exact hP) hK (by rw [show (f_L_addPoint_sn sn gm mev np ni nd) = sn from if_neg h1, show (f_L_addPoint_gm sn gm mev np ni nd) = gm from if_neg h1, show (f_L_addPoint_gp sn gm gp mev np ni nd) = gp from if_neg h1, show (f_L_addPoint_gi sn gm gi mev np ni nd) = gi from if_neg h1, show (f_L_addPoint_gd sn gm gd mev np ni nd) = gd from if_neg h1, show (f_L_addPoint_uo sn gm uo mev np ni nd) = uo from if_neg h1]; exact hD) hS dL_addPoint_30
  · skip
    refine lv_i2l hx hb dL_addPoint_14 rfl ?_
    refine va_last hx hb hK hP hD hS 8 1 rfl rfl (i := (0 : Int32)) (ix_d (by decide)) dL_addPoint_15 (fun H locs hP hD hS => ?_)
    have hP : va_P (dC, dI) vwCl [zX5 adB adA bs, zAL cO adA 3 lf, zX1 adL adc adp ads adr lmo lha lfo lma lst lou, zX4 ads (f_X4_addLast_j1_1 sn) adsm adsp adsi adsd, zAI cI adsm 5 (f_X4_addLast_j1_2 sn gm mev), zAI cI adsp 5 (f_X4_addLast_j1_3 sn gp np), zAI cI adsi 5 (f_X4_addLast_j1_4 sn gi ni), zAI cI adsd 5 (f_X4_addLast_j1_5 sn gd nd), zAJ cJ adU 1 (vp_updL uo (0 : Int32).toNatClampNeg ((f_X4_addLast_j1_1 sn).toInt64))] H := hP
    have hD : va_D A [zX5 adB adA bs, zAL cO adA 3 lf, zX1 adL adc adp ads adr lmo lha lfo lma lst lou, zX4 ads (f_X4_addLast_j1_1 sn) adsm adsp adsi adsd, zAI cI adsm 5 (f_X4_addLast_j1_2 sn gm mev), zAI cI adsp 5 (f_X4_addLast_j1_3 sn gp np), zAI cI adsi 5 (f_X4_addLast_j1_4 sn gi ni), zAI cI adsd 5 (f_X4_addLast_j1_5 sn gd nd), zAJ cJ adU 1 (vp_updL uo (0 : Int32).toNatClampNeg ((f_X4_addLast_j1_1 sn).toInt64))] := hD
    refine lv_goto (tgt := 31) hx hb dL_addPoint_16 (by decide) ?_
    refine lv_iconst (v := 0) hx hb dL_addPoint_31 (by decide) ?_
    exact hh_reti hQ ((if_pos h1).symm) hx hb hr hlocks (by rw [show (f_L_addPoint_sn sn gm mev np ni nd) = (f_X4_addLast_j1_1 sn) from if_pos h1, show (f_L_addPoint_gm sn gm mev np ni nd) = (f_X4_addLast_j1_2 sn gm mev) from if_pos h1, show (f_L_addPoint_gp sn gm gp mev np ni nd) = (f_X4_addLast_j1_3 sn gp np) from if_pos h1, show (f_L_addPoint_gi sn gm gi mev np ni nd) = (f_X4_addLast_j1_4 sn gi ni) from if_pos h1, show (f_L_addPoint_gd sn gm gd mev np ni nd) = (f_X4_addLast_j1_5 sn gd nd) from if_pos h1, show (f_L_addPoint_uo sn gm uo mev np ni nd) = (vp_updL uo (0 : Int32).toNatClampNeg ((f_X4_addLast_j1_1 sn).toInt64)) from if_pos h1]; exact hP) hK (by rw [show (f_L_addPoint_sn sn gm mev np ni nd) = (f_X4_addLast_j1_1 sn) from if_pos h1, show (f_L_addPoint_gm sn gm mev np ni nd) = (f_X4_addLast_j1_2 sn gm mev) from if_pos h1, show (f_L_addPoint_gp sn gm gp mev np ni nd) = (f_X4_addLast_j1_3 sn gp np) from if_pos h1, show (f_L_addPoint_gi sn gm gi mev np ni nd) = (f_X4_addLast_j1_4 sn gi ni) from if_pos h1, show (f_L_addPoint_gd sn gm gd mev np ni nd) = (f_X4_addLast_j1_5 sn gd nd) from if_pos h1, show (f_L_addPoint_uo sn gm uo mev np ni nd) = (vp_updL uo (0 : Int32).toNatClampNeg ((f_X4_addLast_j1_1 sn).toInt64)) from if_pos h1]; exact hD) hS dL_addPoint_32
set_option maxHeartbeats 4000000 in
set_option maxRecDepth 100000 in
theorem c_L_addPoint_o (l : Launch) (dC : Nat → ClassId) (dI : Nat → Nat → Nat) (cI cJ cZ cO : ClassId) (adB adA : Nat) (bs : Int32) (lf : Nat → Option Nat) (adU : Nat) (uo : Nat → Int64) (lp mev np ni nd : Int32) (sz : Nat) (hfl : l.stackTraces = false) (hlo : ¬ lp < (0 : Int32) → ¬ lp < (3 : Int32)) : Met l yL_addPoint (Cond.codeWith yL_addPoint cL_addPoint 8 (some .int) [(0, 16, 19, 13), (0, 16, 23, 15), (0, 16, 27, 25)] :: wAll) ({ frames := 8, cells := 1, slots := 6, locals := 129 }) (va_Pc [.ref adB, .int lp, .int mev, .int np, .int ni, .int nd, .ref adU] (gP (dC, dI) [zX5 adB adA bs, zAL cO adA 3 lf, zAJ cJ adU 1 uo] (tyG cI cJ cZ cO) sz (gW (va_A [zX5 adB adA bs, zAL cO adA 3 lf, zAJ cJ adU 1 uo] sz)))) (va_Qi (fun r (_ : Unit) => r = (wr123 1)) (fun _ t => gB (dC, dI) (va_A [zX5 adB adA bs, zAL cO adA 3 lf, zAJ cJ adU 1 uo] sz) [zX5 adB adA bs, zAL cO adA 3 lf, zAJ cJ adU 1 uo] (tyG cI cJ cZ cO) t) (va_A [zX5 adB adA bs, zAL cO adA 3 lf, zAJ cJ adU 1 uo] sz)) 1 6 (va_A [zX5 adB adA bs, zAL cO adA 3 lf, zAJ cJ adU 1 uo] sz) := by
  refine va_MetW (cc := cL_addPoint) (maxL := 8) (ret := (some .int)) (by decide) rfl ?_
  intro p e s m args below meth c s₁ B hml hv
  obtain ⟨rfl, hsz, hP, hK, hD0, hG⟩ := hv
  have hx := B.exec
  have hb := B.bytes
  have hr := B.returns
  have hts := ht_of B.pre
  have hown : s.vm.findClass RL = some m.cls := findClass_of_methodNamed B.named
  have hlocks := B.notSynchronized
  have htab := vx_table (x := yL_addPoint) B (hts _ wd_2_179)
  subst hsz
  have hD := hD0.self (sz := s.heap.size)
  generalize hAe : va_A [zX5 adB adA bs, zAL cO adA 3 lf, zAJ cJ adU 1 uo] s.heap.size = A at hD hG ⊢
  have hA : ∀ q : Nat, s.heap.size ≤ q → A q := fun q h => by rw [← hAe]; exact Or.inr h
  have hS : va_S A s.heap s.heap [] := va_S.rf
  have hP : va_P (dC, dI) vwCl [zX5 adB adA bs, zAL cO adA 3 lf, zAJ cJ adU 1 uo] s.heap := hP
  have hl := lv_entry ([.ref adB, .int lp, .int mev, .int np, .int ni, .int nd, .ref adU]) (n := 8) (Nat.le_of_ble_eq_true rfl)
  rw [lg_entry_eq]
  generalize (lg_sl ([.ref adB, .int lp, .int mev, .int np, .int ni, .int nd, .ref adU]) ++ List.replicate (8 - (lg_sl ([.ref adB, .int lp, .int mev, .int np, .int ni, .int nd, .ref adU])).length) Slot.unset).toArray = ls at hl ⊢
  have hl : lv_has ls 8 [(0, .ref adB), (1, .int lp), (2, .int mev), (3, .int np), (4, .int ni), (5, .int nd), (6, .ref adU)] := hl
  refine hh_name (fun Q hQ => ?_)
  refine lv_aload hx hb dL_addPoint_0 (lv_at hl 6 rfl) ?_
  refine lv_iconst (v := 0) hx hb dL_addPoint_2 (by decide) ?_
  refine lv_aload_n hx hb dL_addPoint_3 rfl (lv_at hl 0 rfl) ?_
  refine lv_iload_n hx hb dL_addPoint_4 rfl (lv_at hl 1 rfl) ?_
  refine lv_iload_n hx hb dL_addPoint_5 rfl (lv_at hl 2 rfl) ?_
  refine lv_iload_n hx hb dL_addPoint_6 rfl (lv_at hl 3 rfl) ?_
  refine lv_iload hx hb dL_addPoint_7 (lv_at hl 4 rfl) ?_
  refine lv_iload hx hb dL_addPoint_9 (lv_at hl 5 rfl) ?_
  refine hh_xcalli (w2 := [zX5 adB adA bs, zAL cO adA 3 lf, zAJ cJ adU 1 uo]) (vx_runV (As := [.int lp, .int mev, .int np, .int ni, .int nd]) (rest := [.int (0 : Int32), .ref adU]) ⟨hx, hb, hml, hown, hts⟩ (c_X5_addPoint_o l dC dI cI cJ cZ cO adB adA bs lf lp mev np ni nd _ hfl hlo) (cwV 5 hts (gd_V wd_2_180 wd_2_181 wd_2_182 wd_1_1 wd_2_183) rfl rfl rfl (by decide +kernel) ⟨Nat.le_of_ble_eq_true rfl, Nat.le_of_ble_eq_true rfl⟩) (hh_pV (ci := 5) (q := (RX5, TX5, 2)) (q0 := 0) rfl rfl (gT_c _) (gT_call hG.1 hS (va_free hD hS hA [0, 1] rfl)) hK hP hD [0, 1] rfl rfl) rfl rfl hl.1 rfl (lv_room (Nat.le_of_ble_eq_true rfl)) dL_addPoint_11 ⟨Nat.le_of_ble_eq_true rfl, Nat.le_of_ble_eq_true rfl⟩) hP hD hS hA [0, 1] [2] [1, 2, 0] rfl rfl rfl (by decide) rfl rfl rfl (fun E ce q9 H locs h1 hE hP hD hS hc1 hc2 hc3 => ?_) (fun H locs h1 hP hD hS => ?_)
  · skip
    have hc : 1 = 1 := rfl
    rw [hc] at hE
    subst hE
    refine vx_catch (name := exN 1) hown [] ⟨0, 16, 19, 13⟩ [⟨0, 16, 23, 15⟩, ⟨0, 16, 27, 25⟩] htab (fun _ h => nomatch h) rfl (by decide) (hts _ wd_2_22) (va_Nw.use rfl hG.1.2.1.2.2.2.2.1) hc1 hc2 hc3 ?_
    refine W.eq (g2 := F0 m 19 ls [.ref q9]) rfl ?_
    refine lv_astore (lv' := [(7, .ref q9), (0, .ref adB), (1, .int lp), (2, .int mev), (3, .int np), (4, .int ni), (5, .int nd), (6, .ref adU)]) hx hb dL_addPoint_19 hl (by decide) rfl (fun ls hl => ?_)
    refine lv_iconst (v := 1) hx hb dL_addPoint_21 (by decide) ?_
    refine W.widen (k := 1) (n := 6) (Nat.le_of_ble_eq_true rfl) (Nat.le_of_ble_eq_true rfl) ?_
    exact hh_reti hQ (((show (wr123 1) = 1 from by rw [hc]; rfl)).symm) hx hb hr hlocks hP hK hD hS dL_addPoint_22
  · skip
    exact absurd h1 (by decide)
theorem bd_setLimits (lov hiv : Int32) : f_X5_setLimits_x lov hiv = 0 ∨ f_X5_setLimits_x lov hiv = 2 := by
  have h0 := bd_requireWithin lov (-1000000 : Int32) (1000000 : Int32)
  have h1 := bd_requireWithin hiv lov (1000000 : Int32)
  unfold f_X5_setLimits_x; repeat' split
  all_goals omega
def f_L_setLimits_klo (klo lov hiv : Int32) : Int32 := if (f_X5_setLimits_x lov hiv) = 0 then lov else klo
def f_L_setLimits_khi (khi lov hiv : Int32) : Int32 := if (f_X5_setLimits_x lov hiv) = 0 then hiv else khi
def f_L_setLimits_r (lov hiv : Int32) : Int32 := if (f_X5_setLimits_x lov hiv) = 0 then (0 : Int32) else (wr12 (f_X5_setLimits_x lov hiv))
set_option maxHeartbeats 4000000 in
set_option maxRecDepth 100000 in
theorem c_L_setLimits (l : Launch) (dC : Nat → ClassId) (dI : Nat → Nat → Nat) (cI cJ cZ cO : ClassId) (adB adA : Nat) (bs : Int32) (lf : Nat → Option Nat) (adL adc adp ads adr : Nat) (lmo : Int32) (lha : Int64) (lfo lma lst : Int32) (lou : Int64) (kp ki kd klo khi kgu ksh khe : Int32) (ksp kig ksu kle klr : Int64) (kgo lp lov hiv : Int32) (sz : Nat) (hfl : l.stackTraces = false) (hl0 : ¬ lp < (0 : Int32)) (hl3 : lp < (3 : Int32)) (hlf : lf lp.toNatClampNeg = some adL) : Met l yL_setLimits (Cond.codeWith yL_setLimits cL_setLimits 5 (some .int) [(0, 7, 10, 13), (0, 7, 14, 15)] :: wAll) ({ frames := 9, cells := 2, slots := 12, locals := 148 }) (va_Pc [.ref adB, .int lp, .int lov, .int hiv] (gP (dC, dI) [zX5 adB adA bs, zAL cO adA 3 lf, zX1 adL adc adp ads adr lmo lha lfo lma lst lou, zX0 adc kp ki kd klo khi kgu ksh khe ksp kig ksu adp kle klr kgo] (tyG cI cJ cZ cO) sz (gW (va_A [zX5 adB adA bs, zAL cO adA 3 lf, zX1 adL adc adp ads adr lmo lha lfo lma lst lou, zX0 adc kp ki kd klo khi kgu ksh khe ksp kig ksu adp kle klr kgo] sz)))) (va_Qi (fun r (_ : Unit) => r = (f_L_setLimits_r lov hiv)) (fun _ t => gB (dC, dI) (va_A [zX5 adB adA bs, zAL cO adA 3 lf, zX1 adL adc adp ads adr lmo lha lfo lma lst lou, zX0 adc kp ki kd klo khi kgu ksh khe ksp kig ksu adp kle klr kgo] sz) [zX5 adB adA bs, zAL cO adA 3 lf, zX1 adL adc adp ads adr lmo lha lfo lma lst lou, zX0 adc kp ki kd (f_L_setLimits_klo klo lov hiv) (f_L_setLimits_khi khi lov hiv) kgu ksh khe ksp kig ksu adp kle klr kgo] (tyG cI cJ cZ cO) t) (va_A [zX5 adB adA bs, zAL cO adA 3 lf, zX1 adL adc adp ads adr lmo lha lfo lma lst lou, zX0 adc kp ki kd klo khi kgu ksh khe ksp kig ksu adp kle klr kgo] sz)) 2 12 (va_A [zX5 adB adA bs, zAL cO adA 3 lf, zX1 adL adc adp ads adr lmo lha lfo lma lst lou, zX0 adc kp ki kd klo khi kgu ksh khe ksp kig ksu adp kle klr kgo] sz) := by
  refine va_MetW (cc := cL_setLimits) (maxL := 5) (ret := (some .int)) (by decide) rfl ?_
  intro p e s m args below meth c s₁ B hml hv
  obtain ⟨rfl, hsz, hP, hK, hD0, hG⟩ := hv
  have hx := B.exec
  have hb := B.bytes
  have hr := B.returns
  have hts := ht_of B.pre
  have hown : s.vm.findClass RL = some m.cls := findClass_of_methodNamed B.named
  have hlocks := B.notSynchronized
  have htab := vx_table (x := yL_setLimits) B (hts _ wd_2_200)
  subst hsz
  have hD := hD0.self (sz := s.heap.size)
  generalize hAe : va_A [zX5 adB adA bs, zAL cO adA 3 lf, zX1 adL adc adp ads adr lmo lha lfo lma lst lou, zX0 adc kp ki kd klo khi kgu ksh khe ksp kig ksu adp kle klr kgo] s.heap.size = A at hD hG ⊢
  have hA : ∀ q : Nat, s.heap.size ≤ q → A q := fun q h => by rw [← hAe]; exact Or.inr h
  have hS : va_S A s.heap s.heap [] := va_S.rf
  have hP : va_P (dC, dI) vwCl [zX5 adB adA bs, zAL cO adA 3 lf, zX1 adL adc adp ads adr lmo lha lfo lma lst lou, zX0 adc kp ki kd klo khi kgu ksh khe ksp kig ksu adp kle klr kgo] s.heap := hP
  have hl := lv_entry ([.ref adB, .int lp, .int lov, .int hiv]) (n := 5) (Nat.le_of_ble_eq_true rfl)
  rw [lg_entry_eq]
  generalize (lg_sl ([.ref adB, .int lp, .int lov, .int hiv]) ++ List.replicate (5 - (lg_sl ([.ref adB, .int lp, .int lov, .int hiv])).length) Slot.unset).toArray = ls at hl ⊢
  have hl : lv_has ls 5 [(0, .ref adB), (1, .int lp), (2, .int lov), (3, .int hiv)] := hl
  refine hh_name (fun Q hQ => ?_)
  refine lv_aload_n hx hb dL_setLimits_0 rfl (lv_at hl 0 rfl) ?_
  refine lv_iload_n hx hb dL_setLimits_1 rfl (lv_at hl 1 rfl) ?_
  refine lv_iload_n hx hb dL_setLimits_2 rfl (lv_at hl 2 rfl) ?_
  refine lv_iload_n hx hb dL_setLimits_3 rfl (lv_at hl 3 rfl) ?_
  refine hh_xcallv (w2 := [zX5 adB adA bs, zAL cO adA 3 lf, zX1 adL adc adp ads adr lmo lha lfo lma lst lou, zX0 adc kp ki kd lov hiv kgu ksh khe ksp kig ksu adp kle klr kgo]) (vx_runV (As := [.int lp, .int lov, .int hiv]) (rest := []) ⟨hx, hb, hml, hown, hts⟩ (c_X5_setLimits l dC dI cI cJ cZ cO adB adA bs lf adL adc adp ads adr lmo lha lfo lma lst lou kp ki kd klo khi kgu ksh khe ksp kig ksu kle klr kgo lp lov hiv _ hfl hl0 hl3 hlf) (cwV 3 hts (gd_V wd_2_201 wd_2_202 wd_2_203 wd_1_1 wd_2_204) rfl rfl rfl (by decide +kernel) ⟨Nat.le_of_ble_eq_true rfl, Nat.le_of_ble_eq_true rfl⟩) (hh_pV (ci := 5) (q := (RX5, TX5, 2)) (q0 := 0) rfl rfl (gT_c _) (gT_call hG.1 hS (va_free hD hS hA [0, 1, 2, 3] rfl)) hK hP hD [0, 1, 2, 3] rfl rfl) rfl rfl hl.1 rfl (lv_room (Nat.le_of_ble_eq_true rfl)) dL_setLimits_4 ⟨Nat.le_of_ble_eq_true rfl, Nat.le_of_ble_eq_true rfl⟩) hP hD hS hA [0, 1, 2, 3] [] [0, 1, 2, 3] rfl rfl rfl (by decide) rfl rfl rfl (fun E ce q9 H locs h1 hE hP hD hS hc1 hc2 hc3 => ?_) (fun H locs h1 hP hD hS => ?_)
  · skip
    rcases bd_setLimits lov hiv with hc | hc
    · exact absurd hc h1
    · skip
      rw [hc] at hE
      subst hE
      refine vx_catch (name := exN 2) hown [⟨0, 7, 10, 13⟩] ⟨0, 7, 14, 15⟩ [] htab (List.forall_mem_cons.mpr ⟨Or.inr ⟨by decide, exN 1, hts _ wd_2_22, hG.2.1⟩, fun _ h => nomatch h⟩) rfl (by decide) (hts _ wd_2_23) (va_Nw.use rfl hG.1.2.1.2.2.2.2.2.1) hc1 hc2 hc3 ?_
      refine W.eq (g2 := F0 m 14 ls [.ref q9]) rfl ?_
      refine lv_astore (lv' := [(4, .ref q9), (0, .ref adB), (1, .int lp), (2, .int lov), (3, .int hiv)]) hx hb dL_setLimits_14 hl (by decide) rfl (fun ls hl => ?_)
      refine lv_iconst (v := 2) hx hb dL_setLimits_16 (by decide) ?_
      refine W.widen (k := 2) (n := 12) (Nat.le_of_ble_eq_true rfl) (Nat.le_of_ble_eq_true rfl) ?_
      exact hh_reti hQ (((if_neg h1).trans (show (wr12 (f_X5_setLimits_x lov hiv)) = 2 from by rw [hc]; rfl)).symm) hx hb hr hlocks (by rw [show (f_L_setLimits_klo klo lov hiv) = klo from if_neg h1, show (f_L_setLimits_khi khi lov hiv) = khi from if_neg h1]; exact hP) hK (by rw [show (f_L_setLimits_klo klo lov hiv) = klo from if_neg h1, show (f_L_setLimits_khi khi lov hiv) = khi from if_neg h1]; exact hD) hS dL_setLimits_17
  · skip
    refine lv_goto (tgt := 18) hx hb dL_setLimits_7 (by decide) ?_
    refine lv_iconst (v := 0) hx hb dL_setLimits_18 (by decide) ?_
    exact hh_reti hQ ((if_pos h1).symm) hx hb hr hlocks (by rw [show (f_L_setLimits_klo klo lov hiv) = lov from if_pos h1, show (f_L_setLimits_khi khi lov hiv) = hiv from if_pos h1]; exact hP) hK (by rw [show (f_L_setLimits_klo klo lov hiv) = lov from if_pos h1, show (f_L_setLimits_khi khi lov hiv) = hiv from if_pos h1]; exact hD) hS dL_setLimits_19
set_option maxHeartbeats 4000000 in
set_option maxRecDepth 100000 in
theorem c_L_setLimits_o (l : Launch) (dC : Nat → ClassId) (dI : Nat → Nat → Nat) (cI cJ cZ cO : ClassId) (adB adA : Nat) (bs : Int32) (lf : Nat → Option Nat) (lp lov hiv : Int32) (sz : Nat) (hfl : l.stackTraces = false) (hlo : ¬ lp < (0 : Int32) → ¬ lp < (3 : Int32)) : Met l yL_setLimits (Cond.codeWith yL_setLimits cL_setLimits 5 (some .int) [(0, 7, 10, 13), (0, 7, 14, 15)] :: wAll) ({ frames := 8, cells := 1, slots := 6, locals := 127 }) (va_Pc [.ref adB, .int lp, .int lov, .int hiv] (gP (dC, dI) [zX5 adB adA bs, zAL cO adA 3 lf] (tyG cI cJ cZ cO) sz (gW (va_A [zX5 adB adA bs, zAL cO adA 3 lf] sz)))) (va_Qi (fun r (_ : Unit) => r = (wr12 1)) (fun _ t => gB (dC, dI) (va_A [zX5 adB adA bs, zAL cO adA 3 lf] sz) [zX5 adB adA bs, zAL cO adA 3 lf] (tyG cI cJ cZ cO) t) (va_A [zX5 adB adA bs, zAL cO adA 3 lf] sz)) 1 6 (va_A [zX5 adB adA bs, zAL cO adA 3 lf] sz) := by
  refine va_MetW (cc := cL_setLimits) (maxL := 5) (ret := (some .int)) (by decide) rfl ?_
  intro p e s m args below meth c s₁ B hml hv
  obtain ⟨rfl, hsz, hP, hK, hD0, hG⟩ := hv
  have hx := B.exec
  have hb := B.bytes
  have hr := B.returns
  have hts := ht_of B.pre
  have hown : s.vm.findClass RL = some m.cls := findClass_of_methodNamed B.named
  have hlocks := B.notSynchronized
  have htab := vx_table (x := yL_setLimits) B (hts _ wd_2_200)
  subst hsz
  have hD := hD0.self (sz := s.heap.size)
  generalize hAe : va_A [zX5 adB adA bs, zAL cO adA 3 lf] s.heap.size = A at hD hG ⊢
  have hA : ∀ q : Nat, s.heap.size ≤ q → A q := fun q h => by rw [← hAe]; exact Or.inr h
  have hS : va_S A s.heap s.heap [] := va_S.rf
  have hP : va_P (dC, dI) vwCl [zX5 adB adA bs, zAL cO adA 3 lf] s.heap := hP
  have hl := lv_entry ([.ref adB, .int lp, .int lov, .int hiv]) (n := 5) (Nat.le_of_ble_eq_true rfl)
  rw [lg_entry_eq]
  generalize (lg_sl ([.ref adB, .int lp, .int lov, .int hiv]) ++ List.replicate (5 - (lg_sl ([.ref adB, .int lp, .int lov, .int hiv])).length) Slot.unset).toArray = ls at hl ⊢
  have hl : lv_has ls 5 [(0, .ref adB), (1, .int lp), (2, .int lov), (3, .int hiv)] := hl
  refine hh_name (fun Q hQ => ?_)
  refine lv_aload_n hx hb dL_setLimits_0 rfl (lv_at hl 0 rfl) ?_
  refine lv_iload_n hx hb dL_setLimits_1 rfl (lv_at hl 1 rfl) ?_
  refine lv_iload_n hx hb dL_setLimits_2 rfl (lv_at hl 2 rfl) ?_
  refine lv_iload_n hx hb dL_setLimits_3 rfl (lv_at hl 3 rfl) ?_
  refine hh_xcallv (w2 := [zX5 adB adA bs, zAL cO adA 3 lf]) (vx_runV (As := [.int lp, .int lov, .int hiv]) (rest := []) ⟨hx, hb, hml, hown, hts⟩ (c_X5_setLimits_o l dC dI cI cJ cZ cO adB adA bs lf lp lov hiv _ hfl hlo) (cwV 3 hts (gd_V wd_2_201 wd_2_202 wd_2_203 wd_1_1 wd_2_204) rfl rfl rfl (by decide +kernel) ⟨Nat.le_of_ble_eq_true rfl, Nat.le_of_ble_eq_true rfl⟩) (hh_pV (ci := 5) (q := (RX5, TX5, 2)) (q0 := 0) rfl rfl (gT_c _) (gT_call hG.1 hS (va_free hD hS hA [0, 1] rfl)) hK hP hD [0, 1] rfl rfl) rfl rfl hl.1 rfl (lv_room (Nat.le_of_ble_eq_true rfl)) dL_setLimits_4 ⟨Nat.le_of_ble_eq_true rfl, Nat.le_of_ble_eq_true rfl⟩) hP hD hS hA [0, 1] [] [0, 1] rfl rfl rfl (by decide) rfl rfl rfl (fun E ce q9 H locs h1 hE hP hD hS hc1 hc2 hc3 => ?_) (fun H locs h1 hP hD hS => ?_)
  · skip
    have hc : 1 = 1 := rfl
    rw [hc] at hE
    subst hE
    refine vx_catch (name := exN 1) hown [] ⟨0, 7, 10, 13⟩ [⟨0, 7, 14, 15⟩] htab (fun _ h => nomatch h) rfl (by decide) (hts _ wd_2_22) (va_Nw.use rfl hG.1.2.1.2.2.2.2.1) hc1 hc2 hc3 ?_
    refine W.eq (g2 := F0 m 10 ls [.ref q9]) rfl ?_
    refine lv_astore (lv' := [(4, .ref q9), (0, .ref adB), (1, .int lp), (2, .int lov), (3, .int hiv)]) hx hb dL_setLimits_10 hl (by decide) rfl (fun ls hl => ?_)
    refine lv_iconst (v := 1) hx hb dL_setLimits_12 (by decide) ?_
    refine W.widen (k := 1) (n := 6) (Nat.le_of_ble_eq_true rfl) (Nat.le_of_ble_eq_true rfl) ?_
    exact hh_reti hQ (((show (wr12 1) = 1 from by rw [hc]; rfl)).symm) hx hb hr hlocks hP hK hD hS dL_setLimits_13
  · skip
    exact absurd h1 (by decide)
theorem bd_setGuard (guv shv : Int32) : f_X5_setGuard_x guv shv = 0 ∨ f_X5_setGuard_x guv shv = 2 := by
  have h0 := bd_requireWithin guv (0 : Int32) (2 : Int32)
  have h1 := bd_requireWithin shv (0 : Int32) (1000 : Int32)
  unfold f_X5_setGuard_x; repeat' split
  all_goals omega
def f_L_setGuard_kgu (kgu guv shv : Int32) : Int32 := if (f_X5_setGuard_x guv shv) = 0 then guv else kgu
def f_L_setGuard_ksh (ksh guv shv : Int32) : Int32 := if (f_X5_setGuard_x guv shv) = 0 then shv else ksh
def f_L_setGuard_uo (kgu : Int32) (uo : Nat → Int64) (guv shv : Int32) : Nat → Int64 := if (f_X5_setGuard_x guv shv) = 0 then (vp_updL uo (0 : Int32).toNatClampNeg (kgu.toInt64)) else uo
def f_L_setGuard_r (guv shv : Int32) : Int32 := if (f_X5_setGuard_x guv shv) = 0 then (0 : Int32) else (wr12 (f_X5_setGuard_x guv shv))
set_option maxHeartbeats 4000000 in
set_option maxRecDepth 100000 in
theorem c_L_setGuard (l : Launch) (dC : Nat → ClassId) (dI : Nat → Nat → Nat) (cI cJ cZ cO : ClassId) (adB adA : Nat) (bs : Int32) (lf : Nat → Option Nat) (adL adc adp ads adr : Nat) (lmo : Int32) (lha : Int64) (lfo lma lst : Int32) (lou : Int64) (kp ki kd klo khi kgu ksh khe : Int32) (ksp kig ksu kle klr : Int64) (kgo : Int32) (adU : Nat) (uo : Nat → Int64) (lp guv shv : Int32) (sz : Nat) (hfl : l.stackTraces = false) (hl0 : ¬ lp < (0 : Int32)) (hl3 : lp < (3 : Int32)) (hlf : lf lp.toNatClampNeg = some adL) : Met l yL_setGuard (Cond.codeWith yL_setGuard cL_setGuard 6 (some .int) [(0, 12, 15, 13), (0, 12, 19, 15)] :: wAll) ({ frames := 9, cells := 2, slots := 12, locals := 149 }) (va_Pc [.ref adB, .int lp, .int guv, .int shv, .ref adU] (gP (dC, dI) [zX5 adB adA bs, zAL cO adA 3 lf, zX1 adL adc adp ads adr lmo lha lfo lma lst lou, zX0 adc kp ki kd klo khi kgu ksh khe ksp kig ksu adp kle klr kgo, zAJ cJ adU 1 uo] (tyG cI cJ cZ cO) sz (gW (va_A [zX5 adB adA bs, zAL cO adA 3 lf, zX1 adL adc adp ads adr lmo lha lfo lma lst lou, zX0 adc kp ki kd klo khi kgu ksh khe ksp kig ksu adp kle klr kgo, zAJ cJ adU 1 uo] sz)))) (va_Qi (fun r (_ : Unit) => r = (f_L_setGuard_r guv shv)) (fun _ t => gB (dC, dI) (va_A [zX5 adB adA bs, zAL cO adA 3 lf, zX1 adL adc adp ads adr lmo lha lfo lma lst lou, zX0 adc kp ki kd klo khi kgu ksh khe ksp kig ksu adp kle klr kgo, zAJ cJ adU 1 uo] sz) [zX5 adB adA bs, zAL cO adA 3 lf, zX1 adL adc adp ads adr lmo lha lfo lma lst lou, zX0 adc kp ki kd klo khi (f_L_setGuard_kgu kgu guv shv) (f_L_setGuard_ksh ksh guv shv) khe ksp kig ksu adp kle klr kgo, zAJ cJ adU 1 (f_L_setGuard_uo kgu uo guv shv)] (tyG cI cJ cZ cO) t) (va_A [zX5 adB adA bs, zAL cO adA 3 lf, zX1 adL adc adp ads adr lmo lha lfo lma lst lou, zX0 adc kp ki kd klo khi kgu ksh khe ksp kig ksu adp kle klr kgo, zAJ cJ adU 1 uo] sz)) 2 12 (va_A [zX5 adB adA bs, zAL cO adA 3 lf, zX1 adL adc adp ads adr lmo lha lfo lma lst lou, zX0 adc kp ki kd klo khi kgu ksh khe ksp kig ksu adp kle klr kgo, zAJ cJ adU 1 uo] sz) := by
  refine va_MetW (cc := cL_setGuard) (maxL := 6) (ret := (some .int)) (by decide) rfl ?_
  intro p e s m args below meth c s₁ B hml hv
  obtain ⟨rfl, hsz, hP, hK, hD0, hG⟩ := hv
  have hx := B.exec
  have hb := B.bytes
  have hr := B.returns
  have hts := ht_of B.pre
  have hown : s.vm.findClass RL = some m.cls := findClass_of_methodNamed B.named
  have hlocks := B.notSynchronized
  have htab := vx_table (x := yL_setGuard) B (hts _ wd_2_207)
  subst hsz
  have hD := hD0.self (sz := s.heap.size)
  generalize hAe : va_A [zX5 adB adA bs, zAL cO adA 3 lf, zX1 adL adc adp ads adr lmo lha lfo lma lst lou, zX0 adc kp ki kd klo khi kgu ksh khe ksp kig ksu adp kle klr kgo, zAJ cJ adU 1 uo] s.heap.size = A at hD hG ⊢
  have hA : ∀ q : Nat, s.heap.size ≤ q → A q := fun q h => by rw [← hAe]; exact Or.inr h
  have hS : va_S A s.heap s.heap [] := va_S.rf
  have hP : va_P (dC, dI) vwCl [zX5 adB adA bs, zAL cO adA 3 lf, zX1 adL adc adp ads adr lmo lha lfo lma lst lou, zX0 adc kp ki kd klo khi kgu ksh khe ksp kig ksu adp kle klr kgo, zAJ cJ adU 1 uo] s.heap := hP
  have hl := lv_entry ([.ref adB, .int lp, .int guv, .int shv, .ref adU]) (n := 6) (Nat.le_of_ble_eq_true rfl)
  rw [lg_entry_eq]
  generalize (lg_sl ([.ref adB, .int lp, .int guv, .int shv, .ref adU]) ++ List.replicate (6 - (lg_sl ([.ref adB, .int lp, .int guv, .int shv, .ref adU])).length) Slot.unset).toArray = ls at hl ⊢
  have hl : lv_has ls 6 [(0, .ref adB), (1, .int lp), (2, .int guv), (3, .int shv), (4, .ref adU)] := hl
  refine hh_name (fun Q hQ => ?_)
  refine lv_aload hx hb dL_setGuard_0 (lv_at hl 4 rfl) ?_
  refine lv_iconst (v := 0) hx hb dL_setGuard_2 (by decide) ?_
  refine lv_aload_n hx hb dL_setGuard_3 rfl (lv_at hl 0 rfl) ?_
  refine lv_iload_n hx hb dL_setGuard_4 rfl (lv_at hl 1 rfl) ?_
  refine lv_iload_n hx hb dL_setGuard_5 rfl (lv_at hl 2 rfl) ?_
  refine lv_iload_n hx hb dL_setGuard_6 rfl (lv_at hl 3 rfl) ?_
  refine hh_xcalli (w2 := [zX5 adB adA bs, zAL cO adA 3 lf, zX1 adL adc adp ads adr lmo lha lfo lma lst lou, zX0 adc kp ki kd klo khi guv shv khe ksp kig ksu adp kle klr kgo, zAJ cJ adU 1 uo]) (vx_runV (As := [.int lp, .int guv, .int shv]) (rest := [.int (0 : Int32), .ref adU]) ⟨hx, hb, hml, hown, hts⟩ (c_X5_setGuard l dC dI cI cJ cZ cO adB adA bs lf adL adc adp ads adr lmo lha lfo lma lst lou kp ki kd klo khi kgu ksh khe ksp kig ksu kle klr kgo lp guv shv _ hfl hl0 hl3 hlf) (cwV 3 hts (gd_V wd_2_208 wd_2_209 wd_2_210 wd_1_1 wd_2_211) rfl rfl rfl (by decide +kernel) ⟨Nat.le_of_ble_eq_true rfl, Nat.le_of_ble_eq_true rfl⟩) (hh_pV (ci := 5) (q := (RX5, TX5, 2)) (q0 := 0) rfl rfl (gT_c _) (gT_call hG.1 hS (va_free hD hS hA [0, 1, 2, 3] rfl)) hK hP hD [0, 1, 2, 3] rfl rfl) rfl rfl hl.1 rfl (lv_room (Nat.le_of_ble_eq_true rfl)) dL_setGuard_7 ⟨Nat.le_of_ble_eq_true rfl, Nat.le_of_ble_eq_true rfl⟩) hP hD hS hA [0, 1, 2, 3] [4] [1, 2, 3, 4, 0] rfl rfl rfl (by decide) rfl rfl rfl (fun E ce q9 H locs h1 hE hP hD hS hc1 hc2 hc3 => ?_) (fun H locs h1 hP hD hS => ?_)
  · skip
    rcases bd_setGuard guv shv with hc | hc
    · exact absurd hc h1
    · skip
      rw [hc] at hE
      subst hE
      refine vx_catch (name := exN 2) hown [⟨0, 12, 15, 13⟩] ⟨0, 12, 19, 15⟩ [] htab (List.forall_mem_cons.mpr ⟨Or.inr ⟨by decide, exN 1, hts _ wd_2_22, hG.2.1⟩, fun _ h => nomatch h⟩) rfl (by decide) (hts _ wd_2_23) (va_Nw.use rfl hG.1.2.1.2.2.2.2.2.1) hc1 hc2 hc3 ?_
      refine W.eq (g2 := F0 m 19 ls [.ref q9]) rfl ?_
      refine lv_astore (lv' := [(5, .ref q9), (0, .ref adB), (1, .int lp), (2, .int guv), (3, .int shv), (4, .ref adU)]) hx hb dL_setGuard_19 hl (by decide) rfl (fun ls hl => ?_)
      refine lv_iconst (v := 2) hx hb dL_setGuard_21 (by decide) ?_
      refine W.widen (k := 2) (n := 12) (Nat.le_of_ble_eq_true rfl) (Nat.le_of_ble_eq_true rfl) ?_
      exact hh_reti hQ (((if_neg h1).trans (show (wr12 (f_X5_setGuard_x guv shv)) = 2 from by rw [hc]; rfl)).symm) hx hb hr hlocks (by rw [show (f_L_setGuard_kgu kgu guv shv) = kgu from if_neg h1, show (f_L_setGuard_ksh ksh guv shv) = ksh from if_neg h1, show (f_L_setGuard_uo kgu uo guv shv) = uo from if_neg h1]; exact hP) hK (by rw [show (f_L_setGuard_kgu kgu guv shv) = kgu from if_neg h1, show (f_L_setGuard_ksh ksh guv shv) = ksh from if_neg h1, show (f_L_setGuard_uo kgu uo guv shv) = uo from if_neg h1]; exact hD) hS dL_setGuard_22
  · skip
    refine lv_i2l hx hb dL_setGuard_10 rfl ?_
    refine va_last hx hb hK hP hD hS 4 1 rfl rfl (i := (0 : Int32)) (ix_d (by decide)) dL_setGuard_11 (fun H locs hP hD hS => ?_)
    have hP : va_P (dC, dI) vwCl [zX5 adB adA bs, zAL cO adA 3 lf, zX1 adL adc adp ads adr lmo lha lfo lma lst lou, zX0 adc kp ki kd klo khi guv shv khe ksp kig ksu adp kle klr kgo, zAJ cJ adU 1 (vp_updL uo (0 : Int32).toNatClampNeg (kgu.toInt64))] H := hP
    have hD : va_D A [zX5 adB adA bs, zAL cO adA 3 lf, zX1 adL adc adp ads adr lmo lha lfo lma lst lou, zX0 adc kp ki kd klo khi guv shv khe ksp kig ksu adp kle klr kgo, zAJ cJ adU 1 (vp_updL uo (0 : Int32).toNatClampNeg (kgu.toInt64))] := hD
    refine lv_goto (tgt := 23) hx hb dL_setGuard_12 (by decide) ?_
    refine lv_iconst (v := 0) hx hb dL_setGuard_23 (by decide) ?_
    exact hh_reti hQ ((if_pos h1).symm) hx hb hr hlocks (by rw [show (f_L_setGuard_kgu kgu guv shv) = guv from if_pos h1, show (f_L_setGuard_ksh ksh guv shv) = shv from if_pos h1, show (f_L_setGuard_uo kgu uo guv shv) = (vp_updL uo (0 : Int32).toNatClampNeg (kgu.toInt64)) from if_pos h1]; exact hP) hK (by rw [show (f_L_setGuard_kgu kgu guv shv) = guv from if_pos h1, show (f_L_setGuard_ksh ksh guv shv) = shv from if_pos h1, show (f_L_setGuard_uo kgu uo guv shv) = (vp_updL uo (0 : Int32).toNatClampNeg (kgu.toInt64)) from if_pos h1]; exact hD) hS dL_setGuard_24
set_option maxHeartbeats 4000000 in
set_option maxRecDepth 100000 in
theorem c_L_setGuard_o (l : Launch) (dC : Nat → ClassId) (dI : Nat → Nat → Nat) (cI cJ cZ cO : ClassId) (adB adA : Nat) (bs : Int32) (lf : Nat → Option Nat) (adU : Nat) (uo : Nat → Int64) (lp guv shv : Int32) (sz : Nat) (hfl : l.stackTraces = false) (hlo : ¬ lp < (0 : Int32) → ¬ lp < (3 : Int32)) : Met l yL_setGuard (Cond.codeWith yL_setGuard cL_setGuard 6 (some .int) [(0, 12, 15, 13), (0, 12, 19, 15)] :: wAll) ({ frames := 8, cells := 1, slots := 6, locals := 128 }) (va_Pc [.ref adB, .int lp, .int guv, .int shv, .ref adU] (gP (dC, dI) [zX5 adB adA bs, zAL cO adA 3 lf, zAJ cJ adU 1 uo] (tyG cI cJ cZ cO) sz (gW (va_A [zX5 adB adA bs, zAL cO adA 3 lf, zAJ cJ adU 1 uo] sz)))) (va_Qi (fun r (_ : Unit) => r = (wr12 1)) (fun _ t => gB (dC, dI) (va_A [zX5 adB adA bs, zAL cO adA 3 lf, zAJ cJ adU 1 uo] sz) [zX5 adB adA bs, zAL cO adA 3 lf, zAJ cJ adU 1 uo] (tyG cI cJ cZ cO) t) (va_A [zX5 adB adA bs, zAL cO adA 3 lf, zAJ cJ adU 1 uo] sz)) 1 6 (va_A [zX5 adB adA bs, zAL cO adA 3 lf, zAJ cJ adU 1 uo] sz) := by
  refine va_MetW (cc := cL_setGuard) (maxL := 6) (ret := (some .int)) (by decide) rfl ?_
  intro p e s m args below meth c s₁ B hml hv
  obtain ⟨rfl, hsz, hP, hK, hD0, hG⟩ := hv
  have hx := B.exec
  have hb := B.bytes
  have hr := B.returns
  have hts := ht_of B.pre
  have hown : s.vm.findClass RL = some m.cls := findClass_of_methodNamed B.named
  have hlocks := B.notSynchronized
  have htab := vx_table (x := yL_setGuard) B (hts _ wd_2_207)
  subst hsz
  have hD := hD0.self (sz := s.heap.size)
  generalize hAe : va_A [zX5 adB adA bs, zAL cO adA 3 lf, zAJ cJ adU 1 uo] s.heap.size = A at hD hG ⊢
  have hA : ∀ q : Nat, s.heap.size ≤ q → A q := fun q h => by rw [← hAe]; exact Or.inr h
  have hS : va_S A s.heap s.heap [] := va_S.rf
  have hP : va_P (dC, dI) vwCl [zX5 adB adA bs, zAL cO adA 3 lf, zAJ cJ adU 1 uo] s.heap := hP
  have hl := lv_entry ([.ref adB, .int lp, .int guv, .int shv, .ref adU]) (n := 6) (Nat.le_of_ble_eq_true rfl)
  rw [lg_entry_eq]
  generalize (lg_sl ([.ref adB, .int lp, .int guv, .int shv, .ref adU]) ++ List.replicate (6 - (lg_sl ([.ref adB, .int lp, .int guv, .int shv, .ref adU])).length) Slot.unset).toArray = ls at hl ⊢
  have hl : lv_has ls 6 [(0, .ref adB), (1, .int lp), (2, .int guv), (3, .int shv), (4, .ref adU)] := hl
  refine hh_name (fun Q hQ => ?_)
  refine lv_aload hx hb dL_setGuard_0 (lv_at hl 4 rfl) ?_
  refine lv_iconst (v := 0) hx hb dL_setGuard_2 (by decide) ?_
  refine lv_aload_n hx hb dL_setGuard_3 rfl (lv_at hl 0 rfl) ?_
  refine lv_iload_n hx hb dL_setGuard_4 rfl (lv_at hl 1 rfl) ?_
  refine lv_iload_n hx hb dL_setGuard_5 rfl (lv_at hl 2 rfl) ?_
  refine lv_iload_n hx hb dL_setGuard_6 rfl (lv_at hl 3 rfl) ?_
  refine hh_xcalli (w2 := [zX5 adB adA bs, zAL cO adA 3 lf, zAJ cJ adU 1 uo]) (vx_runV (As := [.int lp, .int guv, .int shv]) (rest := [.int (0 : Int32), .ref adU]) ⟨hx, hb, hml, hown, hts⟩ (c_X5_setGuard_o l dC dI cI cJ cZ cO adB adA bs lf lp guv shv _ hfl hlo) (cwV 3 hts (gd_V wd_2_208 wd_2_209 wd_2_210 wd_1_1 wd_2_211) rfl rfl rfl (by decide +kernel) ⟨Nat.le_of_ble_eq_true rfl, Nat.le_of_ble_eq_true rfl⟩) (hh_pV (ci := 5) (q := (RX5, TX5, 2)) (q0 := 0) rfl rfl (gT_c _) (gT_call hG.1 hS (va_free hD hS hA [0, 1] rfl)) hK hP hD [0, 1] rfl rfl) rfl rfl hl.1 rfl (lv_room (Nat.le_of_ble_eq_true rfl)) dL_setGuard_7 ⟨Nat.le_of_ble_eq_true rfl, Nat.le_of_ble_eq_true rfl⟩) hP hD hS hA [0, 1] [2] [1, 2, 0] rfl rfl rfl (by decide) rfl rfl rfl (fun E ce q9 H locs h1 hE hP hD hS hc1 hc2 hc3 => ?_) (fun H locs h1 hP hD hS => ?_)
  · skip
    have hc : 1 = 1 := rfl
    rw [hc] at hE
    subst hE
    refine vx_catch (name := exN 1) hown [] ⟨0, 12, 15, 13⟩ [⟨0, 12, 19, 15⟩] htab (fun _ h => nomatch h) rfl (by decide) (hts _ wd_2_22) (va_Nw.use rfl hG.1.2.1.2.2.2.2.1) hc1 hc2 hc3 ?_
    refine W.eq (g2 := F0 m 15 ls [.ref q9]) rfl ?_
    refine lv_astore (lv' := [(5, .ref q9), (0, .ref adB), (1, .int lp), (2, .int guv), (3, .int shv), (4, .ref adU)]) hx hb dL_setGuard_15 hl (by decide) rfl (fun ls hl => ?_)
    refine lv_iconst (v := 1) hx hb dL_setGuard_17 (by decide) ?_
    refine W.widen (k := 1) (n := 6) (Nat.le_of_ble_eq_true rfl) (Nat.le_of_ble_eq_true rfl) ?_
    exact hh_reti hQ (((show (wr12 1) = 1 from by rw [hc]; rfl)).symm) hx hb hr hlocks hP hK hD hS dL_setGuard_18
  · skip
    exact absurd h1 (by decide)
theorem bd_setSetpoint (lmo spv : Int32) : f_X5_setSetpoint_x lmo spv = 0 ∨ f_X5_setSetpoint_x lmo spv = 2 ∨ f_X5_setSetpoint_x lmo spv = 3 := by
  have h0 := bd_requireWithin spv (-1000000 : Int32) (1000000 : Int32)
  have h1 := bd_requireState (f_X5_setSetpoint_j1_1 lmo)
  unfold f_X5_setSetpoint_x; repeat' split
  all_goals omega
def f_L_setSetpoint_ksp (lmo : Int32) (ksp : Int64) (spv : Int32) : Int64 := if (f_X5_setSetpoint_x lmo spv) = 0 then (f_X5_setSetpoint_ksp spv) else ksp
def f_L_setSetpoint_uo (lmo : Int32) (ksp : Int64) (uo : Nat → Int64) (spv : Int32) : Nat → Int64 := if (f_X5_setSetpoint_x lmo spv) = 0 then (vp_updL uo (0 : Int32).toNatClampNeg ((f_X5_setSetpoint_r ksp).toInt64)) else uo
def f_L_setSetpoint_r (lmo spv : Int32) : Int32 := if (f_X5_setSetpoint_x lmo spv) = 0 then (0 : Int32) else (wr123 (f_X5_setSetpoint_x lmo spv))
set_option maxHeartbeats 4000000 in
set_option maxRecDepth 100000 in
theorem c_L_setSetpoint (l : Launch) (dC : Nat → ClassId) (dI : Nat → Nat → Nat) (cI cJ cZ cO : ClassId) (adB adA : Nat) (bs : Int32) (lf : Nat → Option Nat) (adL adc adp ads adr : Nat) (lmo : Int32) (lha : Int64) (lfo lma lst : Int32) (lou : Int64) (kp ki kd klo khi kgu ksh khe : Int32) (ksp kig ksu kle klr : Int64) (kgo : Int32) (adU : Nat) (uo : Nat → Int64) (lp spv : Int32) (sz : Nat) (hfl : l.stackTraces = false) (hl0 : ¬ lp < (0 : Int32)) (hl3 : lp < (3 : Int32)) (hlf : lf lp.toNatClampNeg = some adL) : Met l yL_setSetpoint (Cond.codeWith yL_setSetpoint cL_setSetpoint 5 (some .int) [(0, 10, 13, 13), (0, 10, 17, 15), (0, 10, 21, 25)] :: wAll) ({ frames := 9, cells := 2, slots := 12, locals := 149 }) (va_Pc [.ref adB, .int lp, .int spv, .ref adU] (gP (dC, dI) [zX5 adB adA bs, zAL cO adA 3 lf, zX1 adL adc adp ads adr lmo lha lfo lma lst lou, zX0 adc kp ki kd klo khi kgu ksh khe ksp kig ksu adp kle klr kgo, zAJ cJ adU 1 uo] (tyG cI cJ cZ cO) sz (gW (va_A [zX5 adB adA bs, zAL cO adA 3 lf, zX1 adL adc adp ads adr lmo lha lfo lma lst lou, zX0 adc kp ki kd klo khi kgu ksh khe ksp kig ksu adp kle klr kgo, zAJ cJ adU 1 uo] sz)))) (va_Qi (fun r (_ : Unit) => r = (f_L_setSetpoint_r lmo spv)) (fun _ t => gB (dC, dI) (va_A [zX5 adB adA bs, zAL cO adA 3 lf, zX1 adL adc adp ads adr lmo lha lfo lma lst lou, zX0 adc kp ki kd klo khi kgu ksh khe ksp kig ksu adp kle klr kgo, zAJ cJ adU 1 uo] sz) [zX5 adB adA bs, zAL cO adA 3 lf, zX1 adL adc adp ads adr lmo lha lfo lma lst lou, zX0 adc kp ki kd klo khi kgu ksh khe (f_L_setSetpoint_ksp lmo ksp spv) kig ksu adp kle klr kgo, zAJ cJ adU 1 (f_L_setSetpoint_uo lmo ksp uo spv)] (tyG cI cJ cZ cO) t) (va_A [zX5 adB adA bs, zAL cO adA 3 lf, zX1 adL adc adp ads adr lmo lha lfo lma lst lou, zX0 adc kp ki kd klo khi kgu ksh khe ksp kig ksu adp kle klr kgo, zAJ cJ adU 1 uo] sz)) 2 12 (va_A [zX5 adB adA bs, zAL cO adA 3 lf, zX1 adL adc adp ads adr lmo lha lfo lma lst lou, zX0 adc kp ki kd klo khi kgu ksh khe ksp kig ksu adp kle klr kgo, zAJ cJ adU 1 uo] sz) := by
  refine va_MetW (cc := cL_setSetpoint) (maxL := 5) (ret := (some .int)) (by decide) rfl ?_
  intro p e s m args below meth c s₁ B hml hv
  obtain ⟨rfl, hsz, hP, hK, hD0, hG⟩ := hv
  have hx := B.exec
  have hb := B.bytes
  have hr := B.returns
  have hts := ht_of B.pre
  have hown : s.vm.findClass RL = some m.cls := findClass_of_methodNamed B.named
  have hlocks := B.notSynchronized
  have htab := vx_table (x := yL_setSetpoint) B (hts _ wd_2_214)
  subst hsz
  have hD := hD0.self (sz := s.heap.size)
  generalize hAe : va_A [zX5 adB adA bs, zAL cO adA 3 lf, zX1 adL adc adp ads adr lmo lha lfo lma lst lou, zX0 adc kp ki kd klo khi kgu ksh khe ksp kig ksu adp kle klr kgo, zAJ cJ adU 1 uo] s.heap.size = A at hD hG ⊢
  have hA : ∀ q : Nat, s.heap.size ≤ q → A q := fun q h => by rw [← hAe]; exact Or.inr h
  have hS : va_S A s.heap s.heap [] := va_S.rf
  have hP : va_P (dC, dI) vwCl [zX5 adB adA bs, zAL cO adA 3 lf, zX1 adL adc adp ads adr lmo lha lfo lma lst lou, zX0 adc kp ki kd klo khi kgu ksh khe ksp kig ksu adp kle klr kgo, zAJ cJ adU 1 uo] s.heap := hP
  have hl := lv_entry ([.ref adB, .int lp, .int spv, .ref adU]) (n := 5) (Nat.le_of_ble_eq_true rfl)
  rw [lg_entry_eq]
  generalize (lg_sl ([.ref adB, .int lp, .int spv, .ref adU]) ++ List.replicate (5 - (lg_sl ([.ref adB, .int lp, .int spv, .ref adU])).length) Slot.unset).toArray = ls at hl ⊢
  have hl : lv_has ls 5 [(0, .ref adB), (1, .int lp), (2, .int spv), (3, .ref adU)] := hl
  refine hh_name (fun Q hQ => ?_)
  refine lv_aload_n hx hb dL_setSetpoint_0 rfl (lv_at hl 3 rfl) ?_
  refine lv_iconst (v := 0) hx hb dL_setSetpoint_1 (by decide) ?_
  refine lv_aload_n hx hb dL_setSetpoint_2 rfl (lv_at hl 0 rfl) ?_
  refine lv_iload_n hx hb dL_setSetpoint_3 rfl (lv_at hl 1 rfl) ?_
  refine lv_iload_n hx hb dL_setSetpoint_4 rfl (lv_at hl 2 rfl) ?_
  refine hh_xcalli (w2 := [zX5 adB adA bs, zAL cO adA 3 lf, zX1 adL adc adp ads adr lmo lha lfo lma lst lou, zX0 adc kp ki kd klo khi kgu ksh khe (f_X5_setSetpoint_ksp spv) kig ksu adp kle klr kgo, zAJ cJ adU 1 uo]) (vx_runV (As := [.int lp, .int spv]) (rest := [.int (0 : Int32), .ref adU]) ⟨hx, hb, hml, hown, hts⟩ (c_X5_setSetpoint l dC dI cI cJ cZ cO adB adA bs lf adL adc adp ads adr lmo lha lfo lma lst lou kp ki kd klo khi kgu ksh khe ksp kig ksu kle klr kgo lp spv _ hfl hl0 hl3 hlf) (cwV 2 hts (gd_V wd_2_215 wd_2_216 wd_2_217 wd_1_1 wd_2_218) rfl rfl rfl (by decide +kernel) ⟨Nat.le_of_ble_eq_true rfl, Nat.le_of_ble_eq_true rfl⟩) (hh_pV (ci := 5) (q := (RX5, TX5, 2)) (q0 := 0) rfl rfl (gT_c _) (gT_call hG.1 hS (va_free hD hS hA [0, 1, 2, 3] rfl)) hK hP hD [0, 1, 2, 3] rfl rfl) rfl rfl hl.1 rfl (lv_room (Nat.le_of_ble_eq_true rfl)) dL_setSetpoint_5 ⟨Nat.le_of_ble_eq_true rfl, Nat.le_of_ble_eq_true rfl⟩) hP hD hS hA [0, 1, 2, 3] [4] [1, 2, 3, 4, 0] rfl rfl rfl (by decide) rfl rfl rfl (fun E ce q9 H locs h1 hE hP hD hS hc1 hc2 hc3 => ?_) (fun H locs h1 hP hD hS => ?_)
  · skip
    rcases bd_setSetpoint lmo spv with hc | hc | hc
    · exact absurd hc h1
    · skip
      rw [hc] at hE
      subst hE
      refine vx_catch (name := exN 2) hown [⟨0, 10, 13, 13⟩] ⟨0, 10, 17, 15⟩ [⟨0, 10, 21, 25⟩] htab (List.forall_mem_cons.mpr ⟨Or.inr ⟨by decide, exN 1, hts _ wd_2_22, hG.2.1⟩, fun _ h => nomatch h⟩) rfl (by decide) (hts _ wd_2_23) (va_Nw.use rfl hG.1.2.1.2.2.2.2.2.1) hc1 hc2 hc3 ?_
      refine W.eq (g2 := F0 m 17 ls [.ref q9]) rfl ?_
      refine lv_astore (lv' := [(4, .ref q9), (0, .ref adB), (1, .int lp), (2, .int spv), (3, .ref adU)]) hx hb dL_setSetpoint_17 hl (by decide) rfl (fun ls hl => ?_)
      refine lv_iconst (v := 2) hx hb dL_setSetpoint_19 (by decide) ?_
      refine W.widen (k := 2) (n := 12) (Nat.le_of_ble_eq_true rfl) (Nat.le_of_ble_eq_true rfl) ?_
      exact hh_reti hQ (((if_neg h1).trans (show (wr123 (f_X5_setSetpoint_x lmo spv)) = 2 from by rw [hc]; rfl)).symm) hx hb hr hlocks (by rw [show (f_L_setSetpoint_ksp lmo ksp spv) = ksp from if_neg h1, show (f_L_setSetpoint_uo lmo ksp uo spv) = uo from if_neg h1]; exact hP) hK (by rw [show (f_L_setSetpoint_ksp lmo ksp spv) = ksp from if_neg h1, show (f_L_setSetpoint_uo lmo ksp uo spv) = uo from if_neg h1]; exact hD) hS dL_setSetpoint_20
    · skip
      rw [hc] at hE
      subst hE
      refine vx_catch (name := exN 3) hown [⟨0, 10, 13, 13⟩, ⟨0, 10, 17, 15⟩] ⟨0, 10, 21, 25⟩ [] htab (List.forall_mem_cons.mpr ⟨Or.inr ⟨by decide, exN 1, hts _ wd_2_22, hG.2.2.1⟩, List.forall_mem_cons.mpr ⟨Or.inr ⟨by decide, exN 2, hts _ wd_2_23, hG.2.2.2⟩, fun _ h => nomatch h⟩⟩) rfl (by decide) (hts _ wd_2_132) (va_Nw.use rfl hG.1.2.1.2.2.2.2.2.2.1) hc1 hc2 hc3 ?_
      refine W.eq (g2 := F0 m 21 ls [.ref q9]) rfl ?_
      refine lv_astore (lv' := [(4, .ref q9), (0, .ref adB), (1, .int lp), (2, .int spv), (3, .ref adU)]) hx hb dL_setSetpoint_21 hl (by decide) rfl (fun ls hl => ?_)
      refine lv_iconst (v := 3) hx hb dL_setSetpoint_23 (by decide) ?_
      refine W.widen (k := 2) (n := 12) (Nat.le_of_ble_eq_true rfl) (Nat.le_of_ble_eq_true rfl) ?_
      exact hh_reti hQ (((if_neg h1).trans (show (wr123 (f_X5_setSetpoint_x lmo spv)) = 3 from by rw [hc]; rfl)).symm) hx hb hr hlocks (by rw [show (f_L_setSetpoint_ksp lmo ksp spv) = ksp from if_neg h1, show (f_L_setSetpoint_uo lmo ksp uo spv) = uo from if_neg h1]; exact hP) hK (by rw [show (f_L_setSetpoint_ksp lmo ksp spv) = ksp from if_neg h1, show (f_L_setSetpoint_uo lmo ksp uo spv) = uo from if_neg h1]; exact hD) hS dL_setSetpoint_24
  · skip
    refine lv_i2l hx hb dL_setSetpoint_8 rfl ?_
    refine va_last hx hb hK hP hD hS 4 1 rfl rfl (i := (0 : Int32)) (ix_d (by decide)) dL_setSetpoint_9 (fun H locs hP hD hS => ?_)
    have hP : va_P (dC, dI) vwCl [zX5 adB adA bs, zAL cO adA 3 lf, zX1 adL adc adp ads adr lmo lha lfo lma lst lou, zX0 adc kp ki kd klo khi kgu ksh khe (f_X5_setSetpoint_ksp spv) kig ksu adp kle klr kgo, zAJ cJ adU 1 (vp_updL uo (0 : Int32).toNatClampNeg ((f_X5_setSetpoint_r ksp).toInt64))] H := hP
    have hD : va_D A [zX5 adB adA bs, zAL cO adA 3 lf, zX1 adL adc adp ads adr lmo lha lfo lma lst lou, zX0 adc kp ki kd klo khi kgu ksh khe (f_X5_setSetpoint_ksp spv) kig ksu adp kle klr kgo, zAJ cJ adU 1 (vp_updL uo (0 : Int32).toNatClampNeg ((f_X5_setSetpoint_r ksp).toInt64))] := hD
    refine lv_goto (tgt := 25) hx hb dL_setSetpoint_10 (by decide) ?_
    refine lv_iconst (v := 0) hx hb dL_setSetpoint_25 (by decide) ?_
    exact hh_reti hQ ((if_pos h1).symm) hx hb hr hlocks (by rw [show (f_L_setSetpoint_ksp lmo ksp spv) = (f_X5_setSetpoint_ksp spv) from if_pos h1, show (f_L_setSetpoint_uo lmo ksp uo spv) = (vp_updL uo (0 : Int32).toNatClampNeg ((f_X5_setSetpoint_r ksp).toInt64)) from if_pos h1]; exact hP) hK (by rw [show (f_L_setSetpoint_ksp lmo ksp spv) = (f_X5_setSetpoint_ksp spv) from if_pos h1, show (f_L_setSetpoint_uo lmo ksp uo spv) = (vp_updL uo (0 : Int32).toNatClampNeg ((f_X5_setSetpoint_r ksp).toInt64)) from if_pos h1]; exact hD) hS dL_setSetpoint_26
set_option maxHeartbeats 4000000 in
set_option maxRecDepth 100000 in
theorem c_L_setSetpoint_o (l : Launch) (dC : Nat → ClassId) (dI : Nat → Nat → Nat) (cI cJ cZ cO : ClassId) (adB adA : Nat) (bs : Int32) (lf : Nat → Option Nat) (adU : Nat) (uo : Nat → Int64) (lp spv : Int32) (sz : Nat) (hfl : l.stackTraces = false) (hlo : ¬ lp < (0 : Int32) → ¬ lp < (3 : Int32)) : Met l yL_setSetpoint (Cond.codeWith yL_setSetpoint cL_setSetpoint 5 (some .int) [(0, 10, 13, 13), (0, 10, 17, 15), (0, 10, 21, 25)] :: wAll) ({ frames := 8, cells := 1, slots := 6, locals := 128 }) (va_Pc [.ref adB, .int lp, .int spv, .ref adU] (gP (dC, dI) [zX5 adB adA bs, zAL cO adA 3 lf, zAJ cJ adU 1 uo] (tyG cI cJ cZ cO) sz (gW (va_A [zX5 adB adA bs, zAL cO adA 3 lf, zAJ cJ adU 1 uo] sz)))) (va_Qi (fun r (_ : Unit) => r = (wr123 1)) (fun _ t => gB (dC, dI) (va_A [zX5 adB adA bs, zAL cO adA 3 lf, zAJ cJ adU 1 uo] sz) [zX5 adB adA bs, zAL cO adA 3 lf, zAJ cJ adU 1 uo] (tyG cI cJ cZ cO) t) (va_A [zX5 adB adA bs, zAL cO adA 3 lf, zAJ cJ adU 1 uo] sz)) 1 6 (va_A [zX5 adB adA bs, zAL cO adA 3 lf, zAJ cJ adU 1 uo] sz) := by
  refine va_MetW (cc := cL_setSetpoint) (maxL := 5) (ret := (some .int)) (by decide) rfl ?_
  intro p e s m args below meth c s₁ B hml hv
  obtain ⟨rfl, hsz, hP, hK, hD0, hG⟩ := hv
  have hx := B.exec
  have hb := B.bytes
  have hr := B.returns
  have hts := ht_of B.pre
  have hown : s.vm.findClass RL = some m.cls := findClass_of_methodNamed B.named
  have hlocks := B.notSynchronized
  have htab := vx_table (x := yL_setSetpoint) B (hts _ wd_2_214)
  subst hsz
  have hD := hD0.self (sz := s.heap.size)
  generalize hAe : va_A [zX5 adB adA bs, zAL cO adA 3 lf, zAJ cJ adU 1 uo] s.heap.size = A at hD hG ⊢
  have hA : ∀ q : Nat, s.heap.size ≤ q → A q := fun q h => by rw [← hAe]; exact Or.inr h
  have hS : va_S A s.heap s.heap [] := va_S.rf
  have hP : va_P (dC, dI) vwCl [zX5 adB adA bs, zAL cO adA 3 lf, zAJ cJ adU 1 uo] s.heap := hP
  have hl := lv_entry ([.ref adB, .int lp, .int spv, .ref adU]) (n := 5) (Nat.le_of_ble_eq_true rfl)
  rw [lg_entry_eq]
  generalize (lg_sl ([.ref adB, .int lp, .int spv, .ref adU]) ++ List.replicate (5 - (lg_sl ([.ref adB, .int lp, .int spv, .ref adU])).length) Slot.unset).toArray = ls at hl ⊢
  have hl : lv_has ls 5 [(0, .ref adB), (1, .int lp), (2, .int spv), (3, .ref adU)] := hl
  refine hh_name (fun Q hQ => ?_)
  refine lv_aload_n hx hb dL_setSetpoint_0 rfl (lv_at hl 3 rfl) ?_
  refine lv_iconst (v := 0) hx hb dL_setSetpoint_1 (by decide) ?_
  refine lv_aload_n hx hb dL_setSetpoint_2 rfl (lv_at hl 0 rfl) ?_
  refine lv_iload_n hx hb dL_setSetpoint_3 rfl (lv_at hl 1 rfl) ?_
  refine lv_iload_n hx hb dL_setSetpoint_4 rfl (lv_at hl 2 rfl) ?_
  refine hh_xcalli (w2 := [zX5 adB adA bs, zAL cO adA 3 lf, zAJ cJ adU 1 uo]) (vx_runV (As := [.int lp, .int spv]) (rest := [.int (0 : Int32), .ref adU]) ⟨hx, hb, hml, hown, hts⟩ (c_X5_setSetpoint_o l dC dI cI cJ cZ cO adB adA bs lf lp spv _ hfl hlo) (cwV 2 hts (gd_V wd_2_215 wd_2_216 wd_2_217 wd_1_1 wd_2_218) rfl rfl rfl (by decide +kernel) ⟨Nat.le_of_ble_eq_true rfl, Nat.le_of_ble_eq_true rfl⟩) (hh_pV (ci := 5) (q := (RX5, TX5, 2)) (q0 := 0) rfl rfl (gT_c _) (gT_call hG.1 hS (va_free hD hS hA [0, 1] rfl)) hK hP hD [0, 1] rfl rfl) rfl rfl hl.1 rfl (lv_room (Nat.le_of_ble_eq_true rfl)) dL_setSetpoint_5 ⟨Nat.le_of_ble_eq_true rfl, Nat.le_of_ble_eq_true rfl⟩) hP hD hS hA [0, 1] [2] [1, 2, 0] rfl rfl rfl (by decide) rfl rfl rfl (fun E ce q9 H locs h1 hE hP hD hS hc1 hc2 hc3 => ?_) (fun H locs h1 hP hD hS => ?_)
  · skip
    have hc : 1 = 1 := rfl
    rw [hc] at hE
    subst hE
    refine vx_catch (name := exN 1) hown [] ⟨0, 10, 13, 13⟩ [⟨0, 10, 17, 15⟩, ⟨0, 10, 21, 25⟩] htab (fun _ h => nomatch h) rfl (by decide) (hts _ wd_2_22) (va_Nw.use rfl hG.1.2.1.2.2.2.2.1) hc1 hc2 hc3 ?_
    refine W.eq (g2 := F0 m 13 ls [.ref q9]) rfl ?_
    refine lv_astore (lv' := [(4, .ref q9), (0, .ref adB), (1, .int lp), (2, .int spv), (3, .ref adU)]) hx hb dL_setSetpoint_13 hl (by decide) rfl (fun ls hl => ?_)
    refine lv_iconst (v := 1) hx hb dL_setSetpoint_15 (by decide) ?_
    refine W.widen (k := 1) (n := 6) (Nat.le_of_ble_eq_true rfl) (Nat.le_of_ble_eq_true rfl) ?_
    exact hh_reti hQ (((show (wr123 1) = 1 from by rw [hc]; rfl)).symm) hx hb hr hlocks hP hK hD hS dL_setSetpoint_16
  · skip
    exact absurd h1 (by decide)
theorem bd_setHand (lmo hav : Int32) : f_X5_setHand_x lmo hav = 0 ∨ f_X5_setHand_x lmo hav = 2 ∨ f_X5_setHand_x lmo hav = 3 := by
  have h0 := bd_requireWithin hav (-1000000 : Int32) (1000000 : Int32)
  have h1 := bd_requireState (f_X5_setHand_j1_1 lmo)
  unfold f_X5_setHand_x; repeat' split
  all_goals omega
def f_L_setHand_lha (lmo : Int32) (lha : Int64) (hav : Int32) : Int64 := if (f_X5_setHand_x lmo hav) = 0 then (f_X5_setHand_lha hav) else lha
def f_L_setHand_uo (lmo : Int32) (lha : Int64) (uo : Nat → Int64) (hav : Int32) : Nat → Int64 := if (f_X5_setHand_x lmo hav) = 0 then (vp_updL uo (0 : Int32).toNatClampNeg ((f_X5_setHand_r lha).toInt64)) else uo
def f_L_setHand_r (lmo hav : Int32) : Int32 := if (f_X5_setHand_x lmo hav) = 0 then (0 : Int32) else (wr123 (f_X5_setHand_x lmo hav))
set_option maxHeartbeats 4000000 in
set_option maxRecDepth 100000 in
theorem c_L_setHand (l : Launch) (dC : Nat → ClassId) (dI : Nat → Nat → Nat) (cI cJ cZ cO : ClassId) (adB adA : Nat) (bs : Int32) (lf : Nat → Option Nat) (adL adc adp ads adr : Nat) (lmo : Int32) (lha : Int64) (lfo lma lst : Int32) (lou : Int64) (adU : Nat) (uo : Nat → Int64) (lp hav : Int32) (sz : Nat) (hfl : l.stackTraces = false) (hl0 : ¬ lp < (0 : Int32)) (hl3 : lp < (3 : Int32)) (hlf : lf lp.toNatClampNeg = some adL) : Met l yL_setHand (Cond.codeWith yL_setHand cL_setHand 5 (some .int) [(0, 10, 13, 13), (0, 10, 17, 15), (0, 10, 21, 25)] :: wAll) ({ frames := 9, cells := 2, slots := 12, locals := 149 }) (va_Pc [.ref adB, .int lp, .int hav, .ref adU] (gP (dC, dI) [zX5 adB adA bs, zAL cO adA 3 lf, zX1 adL adc adp ads adr lmo lha lfo lma lst lou, zAJ cJ adU 1 uo] (tyG cI cJ cZ cO) sz (gW (va_A [zX5 adB adA bs, zAL cO adA 3 lf, zX1 adL adc adp ads adr lmo lha lfo lma lst lou, zAJ cJ adU 1 uo] sz)))) (va_Qi (fun r (_ : Unit) => r = (f_L_setHand_r lmo hav)) (fun _ t => gB (dC, dI) (va_A [zX5 adB adA bs, zAL cO adA 3 lf, zX1 adL adc adp ads adr lmo lha lfo lma lst lou, zAJ cJ adU 1 uo] sz) [zX5 adB adA bs, zAL cO adA 3 lf, zX1 adL adc adp ads adr lmo (f_L_setHand_lha lmo lha hav) lfo lma lst lou, zAJ cJ adU 1 (f_L_setHand_uo lmo lha uo hav)] (tyG cI cJ cZ cO) t) (va_A [zX5 adB adA bs, zAL cO adA 3 lf, zX1 adL adc adp ads adr lmo lha lfo lma lst lou, zAJ cJ adU 1 uo] sz)) 2 12 (va_A [zX5 adB adA bs, zAL cO adA 3 lf, zX1 adL adc adp ads adr lmo lha lfo lma lst lou, zAJ cJ adU 1 uo] sz) := by
  refine va_MetW (cc := cL_setHand) (maxL := 5) (ret := (some .int)) (by decide) rfl ?_
  intro p e s m args below meth c s₁ B hml hv
  obtain ⟨rfl, hsz, hP, hK, hD0, hG⟩ := hv
  have hx := B.exec
  have hb := B.bytes
  have hr := B.returns
  have hts := ht_of B.pre
  have hown : s.vm.findClass RL = some m.cls := findClass_of_methodNamed B.named
  have hlocks := B.notSynchronized
  have htab := vx_table (x := yL_setHand) B (hts _ wd_2_221)
  subst hsz
  have hD := hD0.self (sz := s.heap.size)
  generalize hAe : va_A [zX5 adB adA bs, zAL cO adA 3 lf, zX1 adL adc adp ads adr lmo lha lfo lma lst lou, zAJ cJ adU 1 uo] s.heap.size = A at hD hG ⊢
  have hA : ∀ q : Nat, s.heap.size ≤ q → A q := fun q h => by rw [← hAe]; exact Or.inr h
  have hS : va_S A s.heap s.heap [] := va_S.rf
  have hP : va_P (dC, dI) vwCl [zX5 adB adA bs, zAL cO adA 3 lf, zX1 adL adc adp ads adr lmo lha lfo lma lst lou, zAJ cJ adU 1 uo] s.heap := hP
  have hl := lv_entry ([.ref adB, .int lp, .int hav, .ref adU]) (n := 5) (Nat.le_of_ble_eq_true rfl)
  rw [lg_entry_eq]
  generalize (lg_sl ([.ref adB, .int lp, .int hav, .ref adU]) ++ List.replicate (5 - (lg_sl ([.ref adB, .int lp, .int hav, .ref adU])).length) Slot.unset).toArray = ls at hl ⊢
  have hl : lv_has ls 5 [(0, .ref adB), (1, .int lp), (2, .int hav), (3, .ref adU)] := hl
  refine hh_name (fun Q hQ => ?_)
  refine lv_aload_n hx hb dL_setHand_0 rfl (lv_at hl 3 rfl) ?_
  refine lv_iconst (v := 0) hx hb dL_setHand_1 (by decide) ?_
  refine lv_aload_n hx hb dL_setHand_2 rfl (lv_at hl 0 rfl) ?_
  refine lv_iload_n hx hb dL_setHand_3 rfl (lv_at hl 1 rfl) ?_
  refine lv_iload_n hx hb dL_setHand_4 rfl (lv_at hl 2 rfl) ?_
  refine hh_xcalli (w2 := [zX5 adB adA bs, zAL cO adA 3 lf, zX1 adL adc adp ads adr lmo (f_X5_setHand_lha hav) lfo lma lst lou, zAJ cJ adU 1 uo]) (vx_runV (As := [.int lp, .int hav]) (rest := [.int (0 : Int32), .ref adU]) ⟨hx, hb, hml, hown, hts⟩ (c_X5_setHand l dC dI cI cJ cZ cO adB adA bs lf adL adc adp ads adr lmo lha lfo lma lst lou lp hav _ hfl hl0 hl3 hlf) (cwV 2 hts (gd_V wd_2_222 wd_2_223 wd_2_224 wd_1_1 wd_2_225) rfl rfl rfl (by decide +kernel) ⟨Nat.le_of_ble_eq_true rfl, Nat.le_of_ble_eq_true rfl⟩) (hh_pV (ci := 5) (q := (RX5, TX5, 2)) (q0 := 0) rfl rfl (gT_c _) (gT_call hG.1 hS (va_free hD hS hA [0, 1, 2] rfl)) hK hP hD [0, 1, 2] rfl rfl) rfl rfl hl.1 rfl (lv_room (Nat.le_of_ble_eq_true rfl)) dL_setHand_5 ⟨Nat.le_of_ble_eq_true rfl, Nat.le_of_ble_eq_true rfl⟩) hP hD hS hA [0, 1, 2] [3] [1, 2, 3, 0] rfl rfl rfl (by decide) rfl rfl rfl (fun E ce q9 H locs h1 hE hP hD hS hc1 hc2 hc3 => ?_) (fun H locs h1 hP hD hS => ?_)
  · skip
    rcases bd_setHand lmo hav with hc | hc | hc
    · exact absurd hc h1
    · skip
      rw [hc] at hE
      subst hE
      refine vx_catch (name := exN 2) hown [⟨0, 10, 13, 13⟩] ⟨0, 10, 17, 15⟩ [⟨0, 10, 21, 25⟩] htab (List.forall_mem_cons.mpr ⟨Or.inr ⟨by decide, exN 1, hts _ wd_2_22, hG.2.1⟩, fun _ h => nomatch h⟩) rfl (by decide) (hts _ wd_2_23) (va_Nw.use rfl hG.1.2.1.2.2.2.2.2.1) hc1 hc2 hc3 ?_
      refine W.eq (g2 := F0 m 17 ls [.ref q9]) rfl ?_
      refine lv_astore (lv' := [(4, .ref q9), (0, .ref adB), (1, .int lp), (2, .int hav), (3, .ref adU)]) hx hb dL_setHand_17 hl (by decide) rfl (fun ls hl => ?_)
      refine lv_iconst (v := 2) hx hb dL_setHand_19 (by decide) ?_
      refine W.widen (k := 2) (n := 12) (Nat.le_of_ble_eq_true rfl) (Nat.le_of_ble_eq_true rfl) ?_
      exact hh_reti hQ (((if_neg h1).trans (show (wr123 (f_X5_setHand_x lmo hav)) = 2 from by rw [hc]; rfl)).symm) hx hb hr hlocks (by rw [show (f_L_setHand_lha lmo lha hav) = lha from if_neg h1, show (f_L_setHand_uo lmo lha uo hav) = uo from if_neg h1]; exact hP) hK (by rw [show (f_L_setHand_lha lmo lha hav) = lha from if_neg h1, show (f_L_setHand_uo lmo lha uo hav) = uo from if_neg h1]; exact hD) hS dL_setHand_20
    · skip
      rw [hc] at hE
      subst hE
      refine vx_catch (name := exN 3) hown [⟨0, 10, 13, 13⟩, ⟨0, 10, 17, 15⟩] ⟨0, 10, 21, 25⟩ [] htab (List.forall_mem_cons.mpr ⟨Or.inr ⟨by decide, exN 1, hts _ wd_2_22, hG.2.2.1⟩, List.forall_mem_cons.mpr ⟨Or.inr ⟨by decide, exN 2, hts _ wd_2_23, hG.2.2.2⟩, fun _ h => nomatch h⟩⟩) rfl (by decide) (hts _ wd_2_132) (va_Nw.use rfl hG.1.2.1.2.2.2.2.2.2.1) hc1 hc2 hc3 ?_
      refine W.eq (g2 := F0 m 21 ls [.ref q9]) rfl ?_
      refine lv_astore (lv' := [(4, .ref q9), (0, .ref adB), (1, .int lp), (2, .int hav), (3, .ref adU)]) hx hb dL_setHand_21 hl (by decide) rfl (fun ls hl => ?_)
      refine lv_iconst (v := 3) hx hb dL_setHand_23 (by decide) ?_
      refine W.widen (k := 2) (n := 12) (Nat.le_of_ble_eq_true rfl) (Nat.le_of_ble_eq_true rfl) ?_
      exact hh_reti hQ (((if_neg h1).trans (show (wr123 (f_X5_setHand_x lmo hav)) = 3 from by rw [hc]; rfl)).symm) hx hb hr hlocks (by rw [show (f_L_setHand_lha lmo lha hav) = lha from if_neg h1, show (f_L_setHand_uo lmo lha uo hav) = uo from if_neg h1]; exact hP) hK (by rw [show (f_L_setHand_lha lmo lha hav) = lha from if_neg h1, show (f_L_setHand_uo lmo lha uo hav) = uo from if_neg h1]; exact hD) hS dL_setHand_24
  · skip
    refine lv_i2l hx hb dL_setHand_8 rfl ?_
    refine va_last hx hb hK hP hD hS 3 1 rfl rfl (i := (0 : Int32)) (ix_d (by decide)) dL_setHand_9 (fun H locs hP hD hS => ?_)
    have hP : va_P (dC, dI) vwCl [zX5 adB adA bs, zAL cO adA 3 lf, zX1 adL adc adp ads adr lmo (f_X5_setHand_lha hav) lfo lma lst lou, zAJ cJ adU 1 (vp_updL uo (0 : Int32).toNatClampNeg ((f_X5_setHand_r lha).toInt64))] H := hP
    have hD : va_D A [zX5 adB adA bs, zAL cO adA 3 lf, zX1 adL adc adp ads adr lmo (f_X5_setHand_lha hav) lfo lma lst lou, zAJ cJ adU 1 (vp_updL uo (0 : Int32).toNatClampNeg ((f_X5_setHand_r lha).toInt64))] := hD
    refine lv_goto (tgt := 25) hx hb dL_setHand_10 (by decide) ?_
    refine lv_iconst (v := 0) hx hb dL_setHand_25 (by decide) ?_
    exact hh_reti hQ ((if_pos h1).symm) hx hb hr hlocks (by rw [show (f_L_setHand_lha lmo lha hav) = (f_X5_setHand_lha hav) from if_pos h1, show (f_L_setHand_uo lmo lha uo hav) = (vp_updL uo (0 : Int32).toNatClampNeg ((f_X5_setHand_r lha).toInt64)) from if_pos h1]; exact hP) hK (by rw [show (f_L_setHand_lha lmo lha hav) = (f_X5_setHand_lha hav) from if_pos h1, show (f_L_setHand_uo lmo lha uo hav) = (vp_updL uo (0 : Int32).toNatClampNeg ((f_X5_setHand_r lha).toInt64)) from if_pos h1]; exact hD) hS dL_setHand_26
set_option maxHeartbeats 4000000 in
set_option maxRecDepth 100000 in
theorem c_L_setHand_o (l : Launch) (dC : Nat → ClassId) (dI : Nat → Nat → Nat) (cI cJ cZ cO : ClassId) (adB adA : Nat) (bs : Int32) (lf : Nat → Option Nat) (adU : Nat) (uo : Nat → Int64) (lp hav : Int32) (sz : Nat) (hfl : l.stackTraces = false) (hlo : ¬ lp < (0 : Int32) → ¬ lp < (3 : Int32)) : Met l yL_setHand (Cond.codeWith yL_setHand cL_setHand 5 (some .int) [(0, 10, 13, 13), (0, 10, 17, 15), (0, 10, 21, 25)] :: wAll) ({ frames := 8, cells := 1, slots := 6, locals := 128 }) (va_Pc [.ref adB, .int lp, .int hav, .ref adU] (gP (dC, dI) [zX5 adB adA bs, zAL cO adA 3 lf, zAJ cJ adU 1 uo] (tyG cI cJ cZ cO) sz (gW (va_A [zX5 adB adA bs, zAL cO adA 3 lf, zAJ cJ adU 1 uo] sz)))) (va_Qi (fun r (_ : Unit) => r = (wr123 1)) (fun _ t => gB (dC, dI) (va_A [zX5 adB adA bs, zAL cO adA 3 lf, zAJ cJ adU 1 uo] sz) [zX5 adB adA bs, zAL cO adA 3 lf, zAJ cJ adU 1 uo] (tyG cI cJ cZ cO) t) (va_A [zX5 adB adA bs, zAL cO adA 3 lf, zAJ cJ adU 1 uo] sz)) 1 6 (va_A [zX5 adB adA bs, zAL cO adA 3 lf, zAJ cJ adU 1 uo] sz) := by
  refine va_MetW (cc := cL_setHand) (maxL := 5) (ret := (some .int)) (by decide) rfl ?_
  intro p e s m args below meth c s₁ B hml hv
  obtain ⟨rfl, hsz, hP, hK, hD0, hG⟩ := hv
  have hx := B.exec
  have hb := B.bytes
  have hr := B.returns
  have hts := ht_of B.pre
  have hown : s.vm.findClass RL = some m.cls := findClass_of_methodNamed B.named
  have hlocks := B.notSynchronized
  have htab := vx_table (x := yL_setHand) B (hts _ wd_2_221)
  subst hsz
  have hD := hD0.self (sz := s.heap.size)
  generalize hAe : va_A [zX5 adB adA bs, zAL cO adA 3 lf, zAJ cJ adU 1 uo] s.heap.size = A at hD hG ⊢
  have hA : ∀ q : Nat, s.heap.size ≤ q → A q := fun q h => by rw [← hAe]; exact Or.inr h
  have hS : va_S A s.heap s.heap [] := va_S.rf
  have hP : va_P (dC, dI) vwCl [zX5 adB adA bs, zAL cO adA 3 lf, zAJ cJ adU 1 uo] s.heap := hP
  have hl := lv_entry ([.ref adB, .int lp, .int hav, .ref adU]) (n := 5) (Nat.le_of_ble_eq_true rfl)
  rw [lg_entry_eq]
  generalize (lg_sl ([.ref adB, .int lp, .int hav, .ref adU]) ++ List.replicate (5 - (lg_sl ([.ref adB, .int lp, .int hav, .ref adU])).length) Slot.unset).toArray = ls at hl ⊢
  have hl : lv_has ls 5 [(0, .ref adB), (1, .int lp), (2, .int hav), (3, .ref adU)] := hl
  refine hh_name (fun Q hQ => ?_)
  refine lv_aload_n hx hb dL_setHand_0 rfl (lv_at hl 3 rfl) ?_
  refine lv_iconst (v := 0) hx hb dL_setHand_1 (by decide) ?_
  refine lv_aload_n hx hb dL_setHand_2 rfl (lv_at hl 0 rfl) ?_
  refine lv_iload_n hx hb dL_setHand_3 rfl (lv_at hl 1 rfl) ?_
  refine lv_iload_n hx hb dL_setHand_4 rfl (lv_at hl 2 rfl) ?_
  refine hh_xcalli (w2 := [zX5 adB adA bs, zAL cO adA 3 lf, zAJ cJ adU 1 uo]) (vx_runV (As := [.int lp, .int hav]) (rest := [.int (0 : Int32), .ref adU]) ⟨hx, hb, hml, hown, hts⟩ (c_X5_setHand_o l dC dI cI cJ cZ cO adB adA bs lf lp hav _ hfl hlo) (cwV 2 hts (gd_V wd_2_222 wd_2_223 wd_2_224 wd_1_1 wd_2_225) rfl rfl rfl (by decide +kernel) ⟨Nat.le_of_ble_eq_true rfl, Nat.le_of_ble_eq_true rfl⟩) (hh_pV (ci := 5) (q := (RX5, TX5, 2)) (q0 := 0) rfl rfl (gT_c _) (gT_call hG.1 hS (va_free hD hS hA [0, 1] rfl)) hK hP hD [0, 1] rfl rfl) rfl rfl hl.1 rfl (lv_room (Nat.le_of_ble_eq_true rfl)) dL_setHand_5 ⟨Nat.le_of_ble_eq_true rfl, Nat.le_of_ble_eq_true rfl⟩) hP hD hS hA [0, 1] [2] [1, 2, 0] rfl rfl rfl (by decide) rfl rfl rfl (fun E ce q9 H locs h1 hE hP hD hS hc1 hc2 hc3 => ?_) (fun H locs h1 hP hD hS => ?_)
  · skip
    have hc : 1 = 1 := rfl
    rw [hc] at hE
    subst hE
    refine vx_catch (name := exN 1) hown [] ⟨0, 10, 13, 13⟩ [⟨0, 10, 17, 15⟩, ⟨0, 10, 21, 25⟩] htab (fun _ h => nomatch h) rfl (by decide) (hts _ wd_2_22) (va_Nw.use rfl hG.1.2.1.2.2.2.2.1) hc1 hc2 hc3 ?_
    refine W.eq (g2 := F0 m 13 ls [.ref q9]) rfl ?_
    refine lv_astore (lv' := [(4, .ref q9), (0, .ref adB), (1, .int lp), (2, .int hav), (3, .ref adU)]) hx hb dL_setHand_13 hl (by decide) rfl (fun ls hl => ?_)
    refine lv_iconst (v := 1) hx hb dL_setHand_15 (by decide) ?_
    refine W.widen (k := 1) (n := 6) (Nat.le_of_ble_eq_true rfl) (Nat.le_of_ble_eq_true rfl) ?_
    exact hh_reti hQ (((show (wr123 1) = 1 from by rw [hc]; rfl)).symm) hx hb hr hlocks hP hK hD hS dL_setHand_16
  · skip
    exact absurd h1 (by decide)
theorem bd_setTies (lmo lp mav : Int32) : f_X5_setTies_x lmo lp mav = 0 ∨ f_X5_setTies_x lmo lp mav = 2 ∨ f_X5_setTies_x lmo lp mav = 3 := by
  have h0 := bd_requireArgument (f_X5_setTies_j1_1 lp mav)
  have h1 := bd_requireState (f_X5_setTies_j2_1 lmo mav)
  unfold f_X5_setTies_x; repeat' split
  all_goals omega
def f_L_setTies_lfo (lmo lfo lp fov mav : Int32) : Int32 := if (f_X5_setTies_x lmo lp mav) = 0 then fov else lfo
def f_L_setTies_lma (lmo lma lp mav : Int32) : Int32 := if (f_X5_setTies_x lmo lp mav) = 0 then mav else lma
def f_L_setTies_r (lmo lp mav : Int32) : Int32 := if (f_X5_setTies_x lmo lp mav) = 0 then (0 : Int32) else (wr123 (f_X5_setTies_x lmo lp mav))
set_option maxHeartbeats 4000000 in
set_option maxRecDepth 100000 in
theorem c_L_setTies (l : Launch) (dC : Nat → ClassId) (dI : Nat → Nat → Nat) (cI cJ cZ cO : ClassId) (adB adA : Nat) (bs : Int32) (lf : Nat → Option Nat) (adL adc adp ads adr : Nat) (lmo : Int32) (lha : Int64) (lfo lma lst : Int32) (lou : Int64) (lp fov mav : Int32) (sz : Nat) (hfl : l.stackTraces = false) (hl0 : ¬ lp < (0 : Int32)) (hl3 : lp < (3 : Int32)) (hlf : lf lp.toNatClampNeg = some adL) (hzf : narrow .boolean (.int fov) = .int fov) (hzm : narrow .boolean (.int mav) = .int mav) : Met l yL_setTies (Cond.codeWith yL_setTies cL_setTies 5 (some .int) [(0, 7, 10, 13), (0, 7, 14, 15), (0, 7, 18, 25)] :: wAll) ({ frames := 8, cells := 2, slots := 12, locals := 126 }) (va_Pc [.ref adB, .int lp, .int fov, .int mav] (gP (dC, dI) [zX5 adB adA bs, zAL cO adA 3 lf, zX1 adL adc adp ads adr lmo lha lfo lma lst lou] (tyG cI cJ cZ cO) sz (gW (va_A [zX5 adB adA bs, zAL cO adA 3 lf, zX1 adL adc adp ads adr lmo lha lfo lma lst lou] sz)))) (va_Qi (fun r (_ : Unit) => r = (f_L_setTies_r lmo lp mav)) (fun _ t => gB (dC, dI) (va_A [zX5 adB adA bs, zAL cO adA 3 lf, zX1 adL adc adp ads adr lmo lha lfo lma lst lou] sz) [zX5 adB adA bs, zAL cO adA 3 lf, zX1 adL adc adp ads adr lmo lha (f_L_setTies_lfo lmo lfo lp fov mav) (f_L_setTies_lma lmo lma lp mav) lst lou] (tyG cI cJ cZ cO) t) (va_A [zX5 adB adA bs, zAL cO adA 3 lf, zX1 adL adc adp ads adr lmo lha lfo lma lst lou] sz)) 2 12 (va_A [zX5 adB adA bs, zAL cO adA 3 lf, zX1 adL adc adp ads adr lmo lha lfo lma lst lou] sz) := by
  refine va_MetW (cc := cL_setTies) (maxL := 5) (ret := (some .int)) (by decide) rfl ?_
  intro p e s m args below meth c s₁ B hml hv
  obtain ⟨rfl, hsz, hP, hK, hD0, hG⟩ := hv
  have hx := B.exec
  have hb := B.bytes
  have hr := B.returns
  have hts := ht_of B.pre
  have hown : s.vm.findClass RL = some m.cls := findClass_of_methodNamed B.named
  have hlocks := B.notSynchronized
  have htab := vx_table (x := yL_setTies) B (hts _ wd_2_228)
  subst hsz
  have hD := hD0.self (sz := s.heap.size)
  generalize hAe : va_A [zX5 adB adA bs, zAL cO adA 3 lf, zX1 adL adc adp ads adr lmo lha lfo lma lst lou] s.heap.size = A at hD hG ⊢
  have hA : ∀ q : Nat, s.heap.size ≤ q → A q := fun q h => by rw [← hAe]; exact Or.inr h
  have hS : va_S A s.heap s.heap [] := va_S.rf
  have hP : va_P (dC, dI) vwCl [zX5 adB adA bs, zAL cO adA 3 lf, zX1 adL adc adp ads adr lmo lha lfo lma lst lou] s.heap := hP
  have hl := lv_entry ([.ref adB, .int lp, .int fov, .int mav]) (n := 5) (Nat.le_of_ble_eq_true rfl)
  rw [lg_entry_eq]
  generalize (lg_sl ([.ref adB, .int lp, .int fov, .int mav]) ++ List.replicate (5 - (lg_sl ([.ref adB, .int lp, .int fov, .int mav])).length) Slot.unset).toArray = ls at hl ⊢
  have hl : lv_has ls 5 [(0, .ref adB), (1, .int lp), (2, .int fov), (3, .int mav)] := hl
  refine hh_name (fun Q hQ => ?_)
  refine lv_aload_n hx hb dL_setTies_0 rfl (lv_at hl 0 rfl) ?_
  refine lv_iload_n hx hb dL_setTies_1 rfl (lv_at hl 1 rfl) ?_
  refine lv_iload_n hx hb dL_setTies_2 rfl (lv_at hl 2 rfl) ?_
  refine lv_iload_n hx hb dL_setTies_3 rfl (lv_at hl 3 rfl) ?_
  refine hh_xcallv (w2 := [zX5 adB adA bs, zAL cO adA 3 lf, zX1 adL adc adp ads adr lmo lha fov mav lst lou]) (vx_runV (As := [.int lp, .int fov, .int mav]) (rest := []) ⟨hx, hb, hml, hown, hts⟩ (c_X5_setTies l dC dI cI cJ cZ cO adB adA bs lf adL adc adp ads adr lmo lha lfo lma lst lou lp fov mav _ hfl hl0 hl3 hlf hzf hzm) (cwV 3 hts (gd_V wd_2_229 wd_2_230 wd_2_231 wd_1_1 wd_2_232) rfl rfl rfl (by decide +kernel) ⟨Nat.le_of_ble_eq_true rfl, Nat.le_of_ble_eq_true rfl⟩) (hh_pV (ci := 5) (q := (RX5, TX5, 2)) (q0 := 0) rfl rfl (gT_c _) (gT_call hG.1 hS (va_free hD hS hA [0, 1, 2] rfl)) hK hP hD [0, 1, 2] rfl rfl) rfl rfl hl.1 rfl (lv_room (Nat.le_of_ble_eq_true rfl)) dL_setTies_4 ⟨Nat.le_of_ble_eq_true rfl, Nat.le_of_ble_eq_true rfl⟩) hP hD hS hA [0, 1, 2] [] [0, 1, 2] rfl rfl rfl (by decide) rfl rfl rfl (fun E ce q9 H locs h1 hE hP hD hS hc1 hc2 hc3 => ?_) (fun H locs h1 hP hD hS => ?_)
  · skip
    rcases bd_setTies lmo lp mav with hc | hc | hc
    · exact absurd hc h1
    · skip
      rw [hc] at hE
      subst hE
      refine vx_catch (name := exN 2) hown [⟨0, 7, 10, 13⟩] ⟨0, 7, 14, 15⟩ [⟨0, 7, 18, 25⟩] htab (List.forall_mem_cons.mpr ⟨Or.inr ⟨by decide, exN 1, hts _ wd_2_22, hG.2.1⟩, fun _ h => nomatch h⟩) rfl (by decide) (hts _ wd_2_23) (va_Nw.use rfl hG.1.2.1.2.2.2.2.2.1) hc1 hc2 hc3 ?_
      refine W.eq (g2 := F0 m 14 ls [.ref q9]) rfl ?_
      refine lv_astore (lv' := [(4, .ref q9), (0, .ref adB), (1, .int lp), (2, .int fov), (3, .int mav)]) hx hb dL_setTies_14 hl (by decide) rfl (fun ls hl => ?_)
      refine lv_iconst (v := 2) hx hb dL_setTies_16 (by decide) ?_
      refine W.widen (k := 2) (n := 12) (Nat.le_of_ble_eq_true rfl) (Nat.le_of_ble_eq_true rfl) ?_
      exact hh_reti hQ (((if_neg h1).trans (show (wr123 (f_X5_setTies_x lmo lp mav)) = 2 from by rw [hc]; rfl)).symm) hx hb hr hlocks (by rw [show (f_L_setTies_lfo lmo lfo lp fov mav) = lfo from if_neg h1, show (f_L_setTies_lma lmo lma lp mav) = lma from if_neg h1]; exact hP) hK (by rw [show (f_L_setTies_lfo lmo lfo lp fov mav) = lfo from if_neg h1, show (f_L_setTies_lma lmo lma lp mav) = lma from if_neg h1]; exact hD) hS dL_setTies_17
    · skip
      rw [hc] at hE
      subst hE
      refine vx_catch (name := exN 3) hown [⟨0, 7, 10, 13⟩, ⟨0, 7, 14, 15⟩] ⟨0, 7, 18, 25⟩ [] htab (List.forall_mem_cons.mpr ⟨Or.inr ⟨by decide, exN 1, hts _ wd_2_22, hG.2.2.1⟩, List.forall_mem_cons.mpr ⟨Or.inr ⟨by decide, exN 2, hts _ wd_2_23, hG.2.2.2⟩, fun _ h => nomatch h⟩⟩) rfl (by decide) (hts _ wd_2_132) (va_Nw.use rfl hG.1.2.1.2.2.2.2.2.2.1) hc1 hc2 hc3 ?_
      refine W.eq (g2 := F0 m 18 ls [.ref q9]) rfl ?_
      refine lv_astore (lv' := [(4, .ref q9), (0, .ref adB), (1, .int lp), (2, .int fov), (3, .int mav)]) hx hb dL_setTies_18 hl (by decide) rfl (fun ls hl => ?_)
      refine lv_iconst (v := 3) hx hb dL_setTies_20 (by decide) ?_
      refine W.widen (k := 2) (n := 12) (Nat.le_of_ble_eq_true rfl) (Nat.le_of_ble_eq_true rfl) ?_
      exact hh_reti hQ (((if_neg h1).trans (show (wr123 (f_X5_setTies_x lmo lp mav)) = 3 from by rw [hc]; rfl)).symm) hx hb hr hlocks (by rw [show (f_L_setTies_lfo lmo lfo lp fov mav) = lfo from if_neg h1, show (f_L_setTies_lma lmo lma lp mav) = lma from if_neg h1]; exact hP) hK (by rw [show (f_L_setTies_lfo lmo lfo lp fov mav) = lfo from if_neg h1, show (f_L_setTies_lma lmo lma lp mav) = lma from if_neg h1]; exact hD) hS dL_setTies_21
  · skip
    refine lv_goto (tgt := 22) hx hb dL_setTies_7 (by decide) ?_
    refine lv_iconst (v := 0) hx hb dL_setTies_22 (by decide) ?_
    exact hh_reti hQ ((if_pos h1).symm) hx hb hr hlocks (by rw [show (f_L_setTies_lfo lmo lfo lp fov mav) = fov from if_pos h1, show (f_L_setTies_lma lmo lma lp mav) = mav from if_pos h1]; exact hP) hK (by rw [show (f_L_setTies_lfo lmo lfo lp fov mav) = fov from if_pos h1, show (f_L_setTies_lma lmo lma lp mav) = mav from if_pos h1]; exact hD) hS dL_setTies_23
set_option maxHeartbeats 4000000 in
set_option maxRecDepth 100000 in
theorem c_L_setTies_o (l : Launch) (dC : Nat → ClassId) (dI : Nat → Nat → Nat) (cI cJ cZ cO : ClassId) (adB adA : Nat) (bs : Int32) (lf : Nat → Option Nat) (lp fov mav : Int32) (sz : Nat) (hfl : l.stackTraces = false) (hlo : ¬ lp < (0 : Int32) → ¬ lp < (3 : Int32)) : Met l yL_setTies (Cond.codeWith yL_setTies cL_setTies 5 (some .int) [(0, 7, 10, 13), (0, 7, 14, 15), (0, 7, 18, 25)] :: wAll) ({ frames := 8, cells := 1, slots := 6, locals := 127 }) (va_Pc [.ref adB, .int lp, .int fov, .int mav] (gP (dC, dI) [zX5 adB adA bs, zAL cO adA 3 lf] (tyG cI cJ cZ cO) sz (gW (va_A [zX5 adB adA bs, zAL cO adA 3 lf] sz)))) (va_Qi (fun r (_ : Unit) => r = (wr123 1)) (fun _ t => gB (dC, dI) (va_A [zX5 adB adA bs, zAL cO adA 3 lf] sz) [zX5 adB adA bs, zAL cO adA 3 lf] (tyG cI cJ cZ cO) t) (va_A [zX5 adB adA bs, zAL cO adA 3 lf] sz)) 1 6 (va_A [zX5 adB adA bs, zAL cO adA 3 lf] sz) := by
  refine va_MetW (cc := cL_setTies) (maxL := 5) (ret := (some .int)) (by decide) rfl ?_
  intro p e s m args below meth c s₁ B hml hv
  obtain ⟨rfl, hsz, hP, hK, hD0, hG⟩ := hv
  have hx := B.exec
  have hb := B.bytes
  have hr := B.returns
  have hts := ht_of B.pre
  have hown : s.vm.findClass RL = some m.cls := findClass_of_methodNamed B.named
  have hlocks := B.notSynchronized
  have htab := vx_table (x := yL_setTies) B (hts _ wd_2_228)
  subst hsz
  have hD := hD0.self (sz := s.heap.size)
  generalize hAe : va_A [zX5 adB adA bs, zAL cO adA 3 lf] s.heap.size = A at hD hG ⊢
  have hA : ∀ q : Nat, s.heap.size ≤ q → A q := fun q h => by rw [← hAe]; exact Or.inr h
  have hS : va_S A s.heap s.heap [] := va_S.rf
  have hP : va_P (dC, dI) vwCl [zX5 adB adA bs, zAL cO adA 3 lf] s.heap := hP
  have hl := lv_entry ([.ref adB, .int lp, .int fov, .int mav]) (n := 5) (Nat.le_of_ble_eq_true rfl)
  rw [lg_entry_eq]
  generalize (lg_sl ([.ref adB, .int lp, .int fov, .int mav]) ++ List.replicate (5 - (lg_sl ([.ref adB, .int lp, .int fov, .int mav])).length) Slot.unset).toArray = ls at hl ⊢
  have hl : lv_has ls 5 [(0, .ref adB), (1, .int lp), (2, .int fov), (3, .int mav)] := hl
  refine hh_name (fun Q hQ => ?_)
  refine lv_aload_n hx hb dL_setTies_0 rfl (lv_at hl 0 rfl) ?_
  refine lv_iload_n hx hb dL_setTies_1 rfl (lv_at hl 1 rfl) ?_
  refine lv_iload_n hx hb dL_setTies_2 rfl (lv_at hl 2 rfl) ?_
  refine lv_iload_n hx hb dL_setTies_3 rfl (lv_at hl 3 rfl) ?_
  refine hh_xcallv (w2 := [zX5 adB adA bs, zAL cO adA 3 lf]) (vx_runV (As := [.int lp, .int fov, .int mav]) (rest := []) ⟨hx, hb, hml, hown, hts⟩ (c_X5_setTies_o l dC dI cI cJ cZ cO adB adA bs lf lp fov mav _ hfl hlo) (cwV 3 hts (gd_V wd_2_229 wd_2_230 wd_2_231 wd_1_1 wd_2_232) rfl rfl rfl (by decide +kernel) ⟨Nat.le_of_ble_eq_true rfl, Nat.le_of_ble_eq_true rfl⟩) (hh_pV (ci := 5) (q := (RX5, TX5, 2)) (q0 := 0) rfl rfl (gT_c _) (gT_call hG.1 hS (va_free hD hS hA [0, 1] rfl)) hK hP hD [0, 1] rfl rfl) rfl rfl hl.1 rfl (lv_room (Nat.le_of_ble_eq_true rfl)) dL_setTies_4 ⟨Nat.le_of_ble_eq_true rfl, Nat.le_of_ble_eq_true rfl⟩) hP hD hS hA [0, 1] [] [0, 1] rfl rfl rfl (by decide) rfl rfl rfl (fun E ce q9 H locs h1 hE hP hD hS hc1 hc2 hc3 => ?_) (fun H locs h1 hP hD hS => ?_)
  · skip
    have hc : 1 = 1 := rfl
    rw [hc] at hE
    subst hE
    refine vx_catch (name := exN 1) hown [] ⟨0, 7, 10, 13⟩ [⟨0, 7, 14, 15⟩, ⟨0, 7, 18, 25⟩] htab (fun _ h => nomatch h) rfl (by decide) (hts _ wd_2_22) (va_Nw.use rfl hG.1.2.1.2.2.2.2.1) hc1 hc2 hc3 ?_
    refine W.eq (g2 := F0 m 10 ls [.ref q9]) rfl ?_
    refine lv_astore (lv' := [(4, .ref q9), (0, .ref adB), (1, .int lp), (2, .int fov), (3, .int mav)]) hx hb dL_setTies_10 hl (by decide) rfl (fun ls hl => ?_)
    refine lv_iconst (v := 1) hx hb dL_setTies_12 (by decide) ?_
    refine W.widen (k := 1) (n := 6) (Nat.le_of_ble_eq_true rfl) (Nat.le_of_ble_eq_true rfl) ?_
    exact hh_reti hQ (((show (wr123 1) = 1 from by rw [hc]; rfl)).symm) hx hb hr hlocks hP hK hD hS dL_setTies_13
  · skip
    exact absurd h1 (by decide)
theorem bd_setMode (lmo lma mov : Int32) : f_X5_setMode_x lmo lma mov = 0 ∨ f_X5_setMode_x lmo lma mov = 2 ∨ f_X5_setMode_x lmo lma mov = 3 := by
  have h0 := bd_requireWithin mov (0 : Int32) (2 : Int32)
  have h1 := bd_requireState (f_X5_setMode_j1_1 lmo mov)
  have h2 := bd_requireState (f_X5_setMode_j2_1 lma mov)
  unfold f_X5_setMode_x; repeat' split
  all_goals omega
def f_L_setMode_lmo (lmo lma mov : Int32) : Int32 := if (f_X5_setMode_x lmo lma mov) = 0 then (f_X1_changeMode_lmo lmo mov) else lmo
def f_L_setMode_lha (lmo : Int32) (lha : Int64) (lma : Int32) (lou : Int64) (mov : Int32) : Int64 := if (f_X5_setMode_x lmo lma mov) = 0 then (f_X1_changeMode_lha lmo lha lou mov) else lha
def f_L_setMode_kig (lmo lma : Int32) (lou : Int64) (kp kd : Int32) (ksp kig pme pmb : Int64) (mov : Int32) : Int64 := if (f_X5_setMode_x lmo lma mov) = 0 then (f_X1_changeMode_kig lmo lou kp kd ksp kig pme pmb mov) else kig
def f_L_setMode_kgo (lmo lma kgo mov : Int32) : Int32 := if (f_X5_setMode_x lmo lma mov) = 0 then (f_X1_changeMode_kgo lmo kgo mov) else kgo
def f_L_setMode_rpr (lmo lma rpr mov : Int32) : Int32 := if (f_X5_setMode_x lmo lma mov) = 0 then (f_X1_changeMode_rpr lmo rpr mov) else rpr
def f_L_setMode_uo (lmo lma : Int32) (uo : Nat → Int64) (mov : Int32) : Nat → Int64 := if (f_X5_setMode_x lmo lma mov) = 0 then (vp_updL uo (0 : Int32).toNatClampNeg (lmo.toInt64)) else uo
def f_L_setMode_r (lmo lma mov : Int32) : Int32 := if (f_X5_setMode_x lmo lma mov) = 0 then (0 : Int32) else (wr123 (f_X5_setMode_x lmo lma mov))
set_option maxHeartbeats 4000000 in
set_option maxRecDepth 100000 in
theorem c_L_setMode (l : Launch) (dC : Nat → ClassId) (dI : Nat → Nat → Nat) (cI cJ cZ cO : ClassId) (adB adA : Nat) (bs : Int32) (lf : Nat → Option Nat) (adL adc adp ads adr : Nat) (lmo : Int32) (lha : Int64) (lfo lma lst : Int32) (lou : Int64) (kp ki kd klo khi kgu ksh khe : Int32) (ksp kig ksu kle klr : Int64) (kgo pa1 pa2 pb pdt pld : Int32) (pme pmb : Int64) (ado : Nat) (plt rpr rpe : Int32) (rsw rce : Int64) (rhe rba rup rsa rri rse : Int32) (rgr rle : Int64) (adU : Nat) (uo : Nat → Int64) (lp mov : Int32) (sz : Nat) (hfl : l.stackTraces = false) (hl0 : ¬ lp < (0 : Int32)) (hl3 : lp < (3 : Int32)) (hlf : lf lp.toNatClampNeg = some adL) : Met l yL_setMode (Cond.codeWith yL_setMode cL_setMode 5 (some .int) [(0, 10, 13, 13), (0, 10, 17, 15), (0, 10, 21, 25)] :: wAll) ({ frames := 9, cells := 3, slots := 18, locals := 148 }) (va_Pc [.ref adB, .int lp, .int mov, .ref adU] (gP (dC, dI) [zX5 adB adA bs, zAL cO adA 3 lf, zX1 adL adc adp ads adr lmo lha lfo lma lst lou, zX0 adc kp ki kd klo khi kgu ksh khe ksp kig ksu adp kle klr kgo, zX2 adp pa1 pa2 pb pdt pld pme pmb ado plt, zX3 adr rpr rpe rsw rce rhe rba rup rsa rri rse rgr rle, zAJ cJ adU 1 uo] (tyG cI cJ cZ cO) sz (gW (va_A [zX5 adB adA bs, zAL cO adA 3 lf, zX1 adL adc adp ads adr lmo lha lfo lma lst lou, zX0 adc kp ki kd klo khi kgu ksh khe ksp kig ksu adp kle klr kgo, zX2 adp pa1 pa2 pb pdt pld pme pmb ado plt, zX3 adr rpr rpe rsw rce rhe rba rup rsa rri rse rgr rle, zAJ cJ adU 1 uo] sz)))) (va_Qi (fun r (_ : Unit) => r = (f_L_setMode_r lmo lma mov)) (fun _ t => gB (dC, dI) (va_A [zX5 adB adA bs, zAL cO adA 3 lf, zX1 adL adc adp ads adr lmo lha lfo lma lst lou, zX0 adc kp ki kd klo khi kgu ksh khe ksp kig ksu adp kle klr kgo, zX2 adp pa1 pa2 pb pdt pld pme pmb ado plt, zX3 adr rpr rpe rsw rce rhe rba rup rsa rri rse rgr rle, zAJ cJ adU 1 uo] sz) [zX5 adB adA bs, zAL cO adA 3 lf, zX1 adL adc adp ads adr (f_L_setMode_lmo lmo lma mov) (f_L_setMode_lha lmo lha lma lou mov) lfo lma lst lou, zX0 adc kp ki kd klo khi kgu ksh khe ksp (f_L_setMode_kig lmo lma lou kp kd ksp kig pme pmb mov) ksu adp kle klr (f_L_setMode_kgo lmo lma kgo mov), zX2 adp pa1 pa2 pb pdt pld pme pmb ado plt, zX3 adr (f_L_setMode_rpr lmo lma rpr mov) rpe rsw rce rhe rba rup rsa rri rse rgr rle, zAJ cJ adU 1 (f_L_setMode_uo lmo lma uo mov)] (tyG cI cJ cZ cO) t) (va_A [zX5 adB adA bs, zAL cO adA 3 lf, zX1 adL adc adp ads adr lmo lha lfo lma lst lou, zX0 adc kp ki kd klo khi kgu ksh khe ksp kig ksu adp kle klr kgo, zX2 adp pa1 pa2 pb pdt pld pme pmb ado plt, zX3 adr rpr rpe rsw rce rhe rba rup rsa rri rse rgr rle, zAJ cJ adU 1 uo] sz)) 3 18 (va_A [zX5 adB adA bs, zAL cO adA 3 lf, zX1 adL adc adp ads adr lmo lha lfo lma lst lou, zX0 adc kp ki kd klo khi kgu ksh khe ksp kig ksu adp kle klr kgo, zX2 adp pa1 pa2 pb pdt pld pme pmb ado plt, zX3 adr rpr rpe rsw rce rhe rba rup rsa rri rse rgr rle, zAJ cJ adU 1 uo] sz) := by
  refine va_MetW (cc := cL_setMode) (maxL := 5) (ret := (some .int)) (by decide) rfl ?_
  intro p e s m args below meth c s₁ B hml hv
  obtain ⟨rfl, hsz, hP, hK, hD0, hG⟩ := hv
  have hx := B.exec
  have hb := B.bytes
  have hr := B.returns
  have hts := ht_of B.pre
  have hown : s.vm.findClass RL = some m.cls := findClass_of_methodNamed B.named
  have hlocks := B.notSynchronized
  have htab := vx_table (x := yL_setMode) B (hts _ wd_2_235)
  subst hsz
  have hD := hD0.self (sz := s.heap.size)
  generalize hAe : va_A [zX5 adB adA bs, zAL cO adA 3 lf, zX1 adL adc adp ads adr lmo lha lfo lma lst lou, zX0 adc kp ki kd klo khi kgu ksh khe ksp kig ksu adp kle klr kgo, zX2 adp pa1 pa2 pb pdt pld pme pmb ado plt, zX3 adr rpr rpe rsw rce rhe rba rup rsa rri rse rgr rle, zAJ cJ adU 1 uo] s.heap.size = A at hD hG ⊢
  have hA : ∀ q : Nat, s.heap.size ≤ q → A q := fun q h => by rw [← hAe]; exact Or.inr h
  have hS : va_S A s.heap s.heap [] := va_S.rf
  have hP : va_P (dC, dI) vwCl [zX5 adB adA bs, zAL cO adA 3 lf, zX1 adL adc adp ads adr lmo lha lfo lma lst lou, zX0 adc kp ki kd klo khi kgu ksh khe ksp kig ksu adp kle klr kgo, zX2 adp pa1 pa2 pb pdt pld pme pmb ado plt, zX3 adr rpr rpe rsw rce rhe rba rup rsa rri rse rgr rle, zAJ cJ adU 1 uo] s.heap := hP
  have hl := lv_entry ([.ref adB, .int lp, .int mov, .ref adU]) (n := 5) (Nat.le_of_ble_eq_true rfl)
  rw [lg_entry_eq]
  generalize (lg_sl ([.ref adB, .int lp, .int mov, .ref adU]) ++ List.replicate (5 - (lg_sl ([.ref adB, .int lp, .int mov, .ref adU])).length) Slot.unset).toArray = ls at hl ⊢
  have hl : lv_has ls 5 [(0, .ref adB), (1, .int lp), (2, .int mov), (3, .ref adU)] := hl
  refine hh_name (fun Q hQ => ?_)
  refine lv_aload_n hx hb dL_setMode_0 rfl (lv_at hl 3 rfl) ?_
  refine lv_iconst (v := 0) hx hb dL_setMode_1 (by decide) ?_
  refine lv_aload_n hx hb dL_setMode_2 rfl (lv_at hl 0 rfl) ?_
  refine lv_iload_n hx hb dL_setMode_3 rfl (lv_at hl 1 rfl) ?_
  refine lv_iload_n hx hb dL_setMode_4 rfl (lv_at hl 2 rfl) ?_
  refine hh_xcalli (w2 := [zX5 adB adA bs, zAL cO adA 3 lf, zX1 adL adc adp ads adr (f_X1_changeMode_lmo lmo mov) (f_X1_changeMode_lha lmo lha lou mov) lfo lma lst lou, zX0 adc kp ki kd klo khi kgu ksh khe ksp (f_X1_changeMode_kig lmo lou kp kd ksp kig pme pmb mov) ksu adp kle klr (f_X1_changeMode_kgo lmo kgo mov), zX2 adp pa1 pa2 pb pdt pld pme pmb ado plt, zX3 adr (f_X1_changeMode_rpr lmo rpr mov) rpe rsw rce rhe rba rup rsa rri rse rgr rle, zAJ cJ adU 1 uo]) (vx_runV (As := [.int lp, .int mov]) (rest := [.int (0 : Int32), .ref adU]) ⟨hx, hb, hml, hown, hts⟩ (c_X5_setMode l dC dI cI cJ cZ cO adB adA bs lf adL adc adp ads adr lmo lha lfo lma lst lou kp ki kd klo khi kgu ksh khe ksp kig ksu kle klr kgo pa1 pa2 pb pdt pld pme pmb ado plt rpr rpe rsw rce rhe rba rup rsa rri rse rgr rle lp mov _ hfl hl0 hl3 hlf) (cwV 2 hts (gd_V wd_2_236 wd_2_237 wd_2_238 wd_1_1 wd_2_239) rfl rfl rfl (by decide +kernel) ⟨Nat.le_of_ble_eq_true rfl, Nat.le_of_ble_eq_true rfl⟩) (hh_pV (ci := 5) (q := (RX5, TX5, 2)) (q0 := 0) rfl rfl (gT_c _) (gT_call hG.1 hS (va_free hD hS hA [0, 1, 2, 3, 4, 5] rfl)) hK hP hD [0, 1, 2, 3, 4, 5] rfl rfl) rfl rfl hl.1 rfl (lv_room (Nat.le_of_ble_eq_true rfl)) dL_setMode_5 ⟨Nat.le_of_ble_eq_true rfl, Nat.le_of_ble_eq_true rfl⟩) hP hD hS hA [0, 1, 2, 3, 4, 5] [6] [1, 2, 3, 4, 5, 6, 0] rfl rfl rfl (by decide) rfl rfl rfl (fun E ce q9 H locs h1 hE hP hD hS hc1 hc2 hc3 => ?_) (fun H locs h1 hP hD hS => ?_)
  · skip
    rcases bd_setMode lmo lma mov with hc | hc | hc
    · exact absurd hc h1
    · skip
      rw [hc] at hE
      subst hE
      refine vx_catch (name := exN 2) hown [⟨0, 10, 13, 13⟩] ⟨0, 10, 17, 15⟩ [⟨0, 10, 21, 25⟩] htab (List.forall_mem_cons.mpr ⟨Or.inr ⟨by decide, exN 1, hts _ wd_2_22, hG.2.1⟩, fun _ h => nomatch h⟩) rfl (by decide) (hts _ wd_2_23) (va_Nw.use rfl hG.1.2.1.2.2.2.2.2.1) hc1 hc2 hc3 ?_
      refine W.eq (g2 := F0 m 17 ls [.ref q9]) rfl ?_
      refine lv_astore (lv' := [(4, .ref q9), (0, .ref adB), (1, .int lp), (2, .int mov), (3, .ref adU)]) hx hb dL_setMode_17 hl (by decide) rfl (fun ls hl => ?_)
      refine lv_iconst (v := 2) hx hb dL_setMode_19 (by decide) ?_
      refine W.widen (k := 3) (n := 18) (Nat.le_of_ble_eq_true rfl) (Nat.le_of_ble_eq_true rfl) ?_
      exact hh_reti hQ (((if_neg h1).trans (show (wr123 (f_X5_setMode_x lmo lma mov)) = 2 from by rw [hc]; rfl)).symm) hx hb hr hlocks (by rw [show (f_L_setMode_lmo lmo lma mov) = lmo from if_neg h1, show (f_L_setMode_lha lmo lha lma lou mov) = lha from if_neg h1, show (f_L_setMode_kig lmo lma lou kp kd ksp kig pme pmb mov) = kig from if_neg h1, show (f_L_setMode_kgo lmo lma kgo mov) = kgo from if_neg h1, show (f_L_setMode_rpr lmo lma rpr mov) = rpr from if_neg h1, show (f_L_setMode_uo lmo lma uo mov) = uo from if_neg h1]; exact hP) hK (by rw [show (f_L_setMode_lmo lmo lma mov) = lmo from if_neg h1, show (f_L_setMode_lha lmo lha lma lou mov) = lha from if_neg h1, show (f_L_setMode_kig lmo lma lou kp kd ksp kig pme pmb mov) = kig from if_neg h1, show (f_L_setMode_kgo lmo lma kgo mov) = kgo from if_neg h1, show (f_L_setMode_rpr lmo lma rpr mov) = rpr from if_neg h1, show (f_L_setMode_uo lmo lma uo mov) = uo from if_neg h1]; exact hD) hS dL_setMode_20
    · skip
      rw [hc] at hE
      subst hE
      refine vx_catch (name := exN 3) hown [⟨0, 10, 13, 13⟩, ⟨0, 10, 17, 15⟩] ⟨0, 10, 21, 25⟩ [] htab (List.forall_mem_cons.mpr ⟨Or.inr ⟨by decide, exN 1, hts _ wd_2_22, hG.2.2.1⟩, List.forall_mem_cons.mpr ⟨Or.inr ⟨by decide, exN 2, hts _ wd_2_23, hG.2.2.2⟩, fun _ h => nomatch h⟩⟩) rfl (by decide) (hts _ wd_2_132) (va_Nw.use rfl hG.1.2.1.2.2.2.2.2.2.1) hc1 hc2 hc3 ?_
      refine W.eq (g2 := F0 m 21 ls [.ref q9]) rfl ?_
      refine lv_astore (lv' := [(4, .ref q9), (0, .ref adB), (1, .int lp), (2, .int mov), (3, .ref adU)]) hx hb dL_setMode_21 hl (by decide) rfl (fun ls hl => ?_)
      refine lv_iconst (v := 3) hx hb dL_setMode_23 (by decide) ?_
      refine W.widen (k := 3) (n := 18) (Nat.le_of_ble_eq_true rfl) (Nat.le_of_ble_eq_true rfl) ?_
      exact hh_reti hQ (((if_neg h1).trans (show (wr123 (f_X5_setMode_x lmo lma mov)) = 3 from by rw [hc]; rfl)).symm) hx hb hr hlocks (by rw [show (f_L_setMode_lmo lmo lma mov) = lmo from if_neg h1, show (f_L_setMode_lha lmo lha lma lou mov) = lha from if_neg h1, show (f_L_setMode_kig lmo lma lou kp kd ksp kig pme pmb mov) = kig from if_neg h1, show (f_L_setMode_kgo lmo lma kgo mov) = kgo from if_neg h1, show (f_L_setMode_rpr lmo lma rpr mov) = rpr from if_neg h1, show (f_L_setMode_uo lmo lma uo mov) = uo from if_neg h1]; exact hP) hK (by rw [show (f_L_setMode_lmo lmo lma mov) = lmo from if_neg h1, show (f_L_setMode_lha lmo lha lma lou mov) = lha from if_neg h1, show (f_L_setMode_kig lmo lma lou kp kd ksp kig pme pmb mov) = kig from if_neg h1, show (f_L_setMode_kgo lmo lma kgo mov) = kgo from if_neg h1, show (f_L_setMode_rpr lmo lma rpr mov) = rpr from if_neg h1, show (f_L_setMode_uo lmo lma uo mov) = uo from if_neg h1]; exact hD) hS dL_setMode_24
  · skip
    refine lv_i2l hx hb dL_setMode_8 rfl ?_
    refine va_last hx hb hK hP hD hS 6 1 rfl rfl (i := (0 : Int32)) (ix_d (by decide)) dL_setMode_9 (fun H locs hP hD hS => ?_)
    have hP : va_P (dC, dI) vwCl [zX5 adB adA bs, zAL cO adA 3 lf, zX1 adL adc adp ads adr (f_X1_changeMode_lmo lmo mov) (f_X1_changeMode_lha lmo lha lou mov) lfo lma lst lou, zX0 adc kp ki kd klo khi kgu ksh khe ksp (f_X1_changeMode_kig lmo lou kp kd ksp kig pme pmb mov) ksu adp kle klr (f_X1_changeMode_kgo lmo kgo mov), zX2 adp pa1 pa2 pb pdt pld pme pmb ado plt, zX3 adr (f_X1_changeMode_rpr lmo rpr mov) rpe rsw rce rhe rba rup rsa rri rse rgr rle, zAJ cJ adU 1 (vp_updL uo (0 : Int32).toNatClampNeg (lmo.toInt64))] H := hP
    have hD : va_D A [zX5 adB adA bs, zAL cO adA 3 lf, zX1 adL adc adp ads adr (f_X1_changeMode_lmo lmo mov) (f_X1_changeMode_lha lmo lha lou mov) lfo lma lst lou, zX0 adc kp ki kd klo khi kgu ksh khe ksp (f_X1_changeMode_kig lmo lou kp kd ksp kig pme pmb mov) ksu adp kle klr (f_X1_changeMode_kgo lmo kgo mov), zX2 adp pa1 pa2 pb pdt pld pme pmb ado plt, zX3 adr (f_X1_changeMode_rpr lmo rpr mov) rpe rsw rce rhe rba rup rsa rri rse rgr rle, zAJ cJ adU 1 (vp_updL uo (0 : Int32).toNatClampNeg (lmo.toInt64))] := hD
    refine lv_goto (tgt := 25) hx hb dL_setMode_10 (by decide) ?_
    refine lv_iconst (v := 0) hx hb dL_setMode_25 (by decide) ?_
    exact hh_reti hQ ((if_pos h1).symm) hx hb hr hlocks (by rw [show (f_L_setMode_lmo lmo lma mov) = (f_X1_changeMode_lmo lmo mov) from if_pos h1, show (f_L_setMode_lha lmo lha lma lou mov) = (f_X1_changeMode_lha lmo lha lou mov) from if_pos h1, show (f_L_setMode_kig lmo lma lou kp kd ksp kig pme pmb mov) = (f_X1_changeMode_kig lmo lou kp kd ksp kig pme pmb mov) from if_pos h1, show (f_L_setMode_kgo lmo lma kgo mov) = (f_X1_changeMode_kgo lmo kgo mov) from if_pos h1, show (f_L_setMode_rpr lmo lma rpr mov) = (f_X1_changeMode_rpr lmo rpr mov) from if_pos h1, show (f_L_setMode_uo lmo lma uo mov) = (vp_updL uo (0 : Int32).toNatClampNeg (lmo.toInt64)) from if_pos h1]; exact hP) hK (by rw [show (f_L_setMode_lmo lmo lma mov) = (f_X1_changeMode_lmo lmo mov) from if_pos h1, show (f_L_setMode_lha lmo lha lma lou mov) = (f_X1_changeMode_lha lmo lha lou mov) from if_pos h1, show (f_L_setMode_kig lmo lma lou kp kd ksp kig pme pmb mov) = (f_X1_changeMode_kig lmo lou kp kd ksp kig pme pmb mov) from if_pos h1, show (f_L_setMode_kgo lmo lma kgo mov) = (f_X1_changeMode_kgo lmo kgo mov) from if_pos h1, show (f_L_setMode_rpr lmo lma rpr mov) = (f_X1_changeMode_rpr lmo rpr mov) from if_pos h1, show (f_L_setMode_uo lmo lma uo mov) = (vp_updL uo (0 : Int32).toNatClampNeg (lmo.toInt64)) from if_pos h1]; exact hD) hS dL_setMode_26
set_option maxHeartbeats 4000000 in
set_option maxRecDepth 100000 in
theorem c_L_setMode_o (l : Launch) (dC : Nat → ClassId) (dI : Nat → Nat → Nat) (cI cJ cZ cO : ClassId) (adB adA : Nat) (bs : Int32) (lf : Nat → Option Nat) (adU : Nat) (uo : Nat → Int64) (lp mov : Int32) (sz : Nat) (hfl : l.stackTraces = false) (hlo : ¬ lp < (0 : Int32) → ¬ lp < (3 : Int32)) : Met l yL_setMode (Cond.codeWith yL_setMode cL_setMode 5 (some .int) [(0, 10, 13, 13), (0, 10, 17, 15), (0, 10, 21, 25)] :: wAll) ({ frames := 8, cells := 1, slots := 6, locals := 127 }) (va_Pc [.ref adB, .int lp, .int mov, .ref adU] (gP (dC, dI) [zX5 adB adA bs, zAL cO adA 3 lf, zAJ cJ adU 1 uo] (tyG cI cJ cZ cO) sz (gW (va_A [zX5 adB adA bs, zAL cO adA 3 lf, zAJ cJ adU 1 uo] sz)))) (va_Qi (fun r (_ : Unit) => r = (wr123 1)) (fun _ t => gB (dC, dI) (va_A [zX5 adB adA bs, zAL cO adA 3 lf, zAJ cJ adU 1 uo] sz) [zX5 adB adA bs, zAL cO adA 3 lf, zAJ cJ adU 1 uo] (tyG cI cJ cZ cO) t) (va_A [zX5 adB adA bs, zAL cO adA 3 lf, zAJ cJ adU 1 uo] sz)) 1 6 (va_A [zX5 adB adA bs, zAL cO adA 3 lf, zAJ cJ adU 1 uo] sz) := by
  refine va_MetW (cc := cL_setMode) (maxL := 5) (ret := (some .int)) (by decide) rfl ?_
  intro p e s m args below meth c s₁ B hml hv
  obtain ⟨rfl, hsz, hP, hK, hD0, hG⟩ := hv
  have hx := B.exec
  have hb := B.bytes
  have hr := B.returns
  have hts := ht_of B.pre
  have hown : s.vm.findClass RL = some m.cls := findClass_of_methodNamed B.named
  have hlocks := B.notSynchronized
  have htab := vx_table (x := yL_setMode) B (hts _ wd_2_235)
  subst hsz
  have hD := hD0.self (sz := s.heap.size)
  generalize hAe : va_A [zX5 adB adA bs, zAL cO adA 3 lf, zAJ cJ adU 1 uo] s.heap.size = A at hD hG ⊢
  have hA : ∀ q : Nat, s.heap.size ≤ q → A q := fun q h => by rw [← hAe]; exact Or.inr h
  have hS : va_S A s.heap s.heap [] := va_S.rf
  have hP : va_P (dC, dI) vwCl [zX5 adB adA bs, zAL cO adA 3 lf, zAJ cJ adU 1 uo] s.heap := hP
  have hl := lv_entry ([.ref adB, .int lp, .int mov, .ref adU]) (n := 5) (Nat.le_of_ble_eq_true rfl)
  rw [lg_entry_eq]
  generalize (lg_sl ([.ref adB, .int lp, .int mov, .ref adU]) ++ List.replicate (5 - (lg_sl ([.ref adB, .int lp, .int mov, .ref adU])).length) Slot.unset).toArray = ls at hl ⊢
  have hl : lv_has ls 5 [(0, .ref adB), (1, .int lp), (2, .int mov), (3, .ref adU)] := hl
  refine hh_name (fun Q hQ => ?_)
  refine lv_aload_n hx hb dL_setMode_0 rfl (lv_at hl 3 rfl) ?_
  refine lv_iconst (v := 0) hx hb dL_setMode_1 (by decide) ?_
  refine lv_aload_n hx hb dL_setMode_2 rfl (lv_at hl 0 rfl) ?_
  refine lv_iload_n hx hb dL_setMode_3 rfl (lv_at hl 1 rfl) ?_
  refine lv_iload_n hx hb dL_setMode_4 rfl (lv_at hl 2 rfl) ?_
  refine hh_xcalli (w2 := [zX5 adB adA bs, zAL cO adA 3 lf, zAJ cJ adU 1 uo]) (vx_runV (As := [.int lp, .int mov]) (rest := [.int (0 : Int32), .ref adU]) ⟨hx, hb, hml, hown, hts⟩ (c_X5_setMode_o l dC dI cI cJ cZ cO adB adA bs lf lp mov _ hfl hlo) (cwV 2 hts (gd_V wd_2_236 wd_2_237 wd_2_238 wd_1_1 wd_2_239) rfl rfl rfl (by decide +kernel) ⟨Nat.le_of_ble_eq_true rfl, Nat.le_of_ble_eq_true rfl⟩) (hh_pV (ci := 5) (q := (RX5, TX5, 2)) (q0 := 0) rfl rfl (gT_c _) (gT_call hG.1 hS (va_free hD hS hA [0, 1] rfl)) hK hP hD [0, 1] rfl rfl) rfl rfl hl.1 rfl (lv_room (Nat.le_of_ble_eq_true rfl)) dL_setMode_5 ⟨Nat.le_of_ble_eq_true rfl, Nat.le_of_ble_eq_true rfl⟩) hP hD hS hA [0, 1] [2] [1, 2, 0] rfl rfl rfl (by decide) rfl rfl rfl (fun E ce q9 H locs h1 hE hP hD hS hc1 hc2 hc3 => ?_) (fun H locs h1 hP hD hS => ?_)
  · skip
    have hc : 1 = 1 := rfl
    rw [hc] at hE
    subst hE
    refine vx_catch (name := exN 1) hown [] ⟨0, 10, 13, 13⟩ [⟨0, 10, 17, 15⟩, ⟨0, 10, 21, 25⟩] htab (fun _ h => nomatch h) rfl (by decide) (hts _ wd_2_22) (va_Nw.use rfl hG.1.2.1.2.2.2.2.1) hc1 hc2 hc3 ?_
    refine W.eq (g2 := F0 m 13 ls [.ref q9]) rfl ?_
    refine lv_astore (lv' := [(4, .ref q9), (0, .ref adB), (1, .int lp), (2, .int mov), (3, .ref adU)]) hx hb dL_setMode_13 hl (by decide) rfl (fun ls hl => ?_)
    refine lv_iconst (v := 1) hx hb dL_setMode_15 (by decide) ?_
    refine W.widen (k := 1) (n := 6) (Nat.le_of_ble_eq_true rfl) (Nat.le_of_ble_eq_true rfl) ?_
    exact hh_reti hQ (((show (wr123 1) = 1 from by rw [hc]; rfl)).symm) hx hb hr hlocks hP hK hD hS dL_setMode_16
  · skip
    exact absurd h1 (by decide)
def f_L_measure_uo (pme : Int64) (uo : Nat → Int64) : Nat → Int64 := (vp_updL uo (0 : Int32).toNatClampNeg pme)
set_option maxHeartbeats 4000000 in
set_option maxRecDepth 100000 in
theorem c_L_measure (l : Launch) (dC : Nat → ClassId) (dI : Nat → Nat → Nat) (cI cJ cZ cO : ClassId) (adB adA : Nat) (bs : Int32) (lf : Nat → Option Nat) (adL adc adp ads adr : Nat) (lmo : Int32) (lha : Int64) (lfo lma lst : Int32) (lou : Int64) (pa1 pa2 pb pdt pld : Int32) (pme pmb : Int64) (ado : Nat) (plt : Int32) (adU : Nat) (uo : Nat → Int64) (lp : Int32) (sz : Nat) (hfl : l.stackTraces = false) (hl0 : ¬ lp < (0 : Int32)) (hl3 : lp < (3 : Int32)) (hlf : lf lp.toNatClampNeg = some adL) : Met l yL_measure (Cond.codeWith yL_measure cL_measure 4 (some .int) [(0, 8, 11, 13)] :: wAll) ({ frames := 2, cells := 0, slots := 0, locals := 42 }) (va_Pc [.ref adB, .int lp, .ref adU] (gP (dC, dI) [zX5 adB adA bs, zAL cO adA 3 lf, zX1 adL adc adp ads adr lmo lha lfo lma lst lou, zX2 adp pa1 pa2 pb pdt pld pme pmb ado plt, zAJ cJ adU 1 uo] (tyG cI cJ cZ cO) sz (gW (va_A [zX5 adB adA bs, zAL cO adA 3 lf, zX1 adL adc adp ads adr lmo lha lfo lma lst lou, zX2 adp pa1 pa2 pb pdt pld pme pmb ado plt, zAJ cJ adU 1 uo] sz)))) (va_Qi (fun r (_ : Unit) => r = (0 : Int32)) (fun _ t => gB (dC, dI) (va_A [zX5 adB adA bs, zAL cO adA 3 lf, zX1 adL adc adp ads adr lmo lha lfo lma lst lou, zX2 adp pa1 pa2 pb pdt pld pme pmb ado plt, zAJ cJ adU 1 uo] sz) [zX5 adB adA bs, zAL cO adA 3 lf, zX1 adL adc adp ads adr lmo lha lfo lma lst lou, zX2 adp pa1 pa2 pb pdt pld pme pmb ado plt, zAJ cJ adU 1 (f_L_measure_uo pme uo)] (tyG cI cJ cZ cO) t) (va_A [zX5 adB adA bs, zAL cO adA 3 lf, zX1 adL adc adp ads adr lmo lha lfo lma lst lou, zX2 adp pa1 pa2 pb pdt pld pme pmb ado plt, zAJ cJ adU 1 uo] sz)) 0 0 (va_A [zX5 adB adA bs, zAL cO adA 3 lf, zX1 adL adc adp ads adr lmo lha lfo lma lst lou, zX2 adp pa1 pa2 pb pdt pld pme pmb ado plt, zAJ cJ adU 1 uo] sz) := by
  refine va_MetW (cc := cL_measure) (maxL := 4) (ret := (some .int)) (by decide) rfl ?_
  intro p e s m args below meth c s₁ B hml hv
  obtain ⟨rfl, hsz, hP, hK, hD0, hG⟩ := hv
  have hx := B.exec
  have hb := B.bytes
  have hr := B.returns
  have hts := ht_of B.pre
  have hown : s.vm.findClass RL = some m.cls := findClass_of_methodNamed B.named
  have hlocks := B.notSynchronized
  have htab := vx_table (x := yL_measure) B (hts _ wd_3_139)
  subst hsz
  have hD := hD0.self (sz := s.heap.size)
  generalize hAe : va_A [zX5 adB adA bs, zAL cO adA 3 lf, zX1 adL adc adp ads adr lmo lha lfo lma lst lou, zX2 adp pa1 pa2 pb pdt pld pme pmb ado plt, zAJ cJ adU 1 uo] s.heap.size = A at hD hG ⊢
  have hA : ∀ q : Nat, s.heap.size ≤ q → A q := fun q h => by rw [← hAe]; exact Or.inr h
  have hS : va_S A s.heap s.heap [] := va_S.rf
  have hP : va_P (dC, dI) vwCl [zX5 adB adA bs, zAL cO adA 3 lf, zX1 adL adc adp ads adr lmo lha lfo lma lst lou, zX2 adp pa1 pa2 pb pdt pld pme pmb ado plt, zAJ cJ adU 1 uo] s.heap := hP
  have hl := lv_entry ([.ref adB, .int lp, .ref adU]) (n := 4) (Nat.le_of_ble_eq_true rfl)
  rw [lg_entry_eq]
  generalize (lg_sl ([.ref adB, .int lp, .ref adU]) ++ List.replicate (4 - (lg_sl ([.ref adB, .int lp, .ref adU])).length) Slot.unset).toArray = ls at hl ⊢
  have hl : lv_has ls 4 [(0, .ref adB), (1, .int lp), (2, .ref adU)] := hl
  refine hh_name (fun Q hQ => ?_)
  refine lv_aload_n hx hb dL_measure_0 rfl (lv_at hl 2 rfl) ?_
  refine lv_iconst (v := 0) hx hb dL_measure_1 (by decide) ?_
  refine lv_aload_n hx hb dL_measure_2 rfl (lv_at hl 0 rfl) ?_
  refine lv_iload_n hx hb dL_measure_3 rfl (lv_at hl 1 rfl) ?_
  refine hh_calll (w2 := [zX5 adB adA bs, zAL cO adA 3 lf, zX1 adL adc adp ads adr lmo lha lfo lma lst lou, zX2 adp pa1 pa2 pb pdt pld pme pmb ado plt, zAJ cJ adU 1 uo]) (va_runV (As := [.int lp]) (rest := [.int (0 : Int32), .ref adU]) ⟨hx, hb, hml, hown, hts⟩ (c_X5_measure l dC dI cI cJ cZ cO adB adA bs lf adL adc adp ads adr lmo lha lfo lma lst lou pa1 pa2 pb pdt pld pme pmb ado plt lp _ hl0 hl3 hlf) (cwV 1 hts (gd_V wd_3_140 wd_3_141 wd_3_142 wd_1_1 wd_3_143) rfl rfl rfl (by decide +kernel) ⟨Nat.le_of_ble_eq_true rfl, Nat.le_of_ble_eq_true rfl⟩) (hh_pV (ci := 5) (q := (RX5, TX5, 2)) (q0 := 0) rfl rfl gN_c (fun U _ hW => gN_w hW hG.1.1) hK hP hD [0, 1, 2, 3] rfl rfl) rfl rfl hl.1 rfl (lv_room (Nat.le_of_ble_eq_true rfl)) dL_measure_4 ⟨Nat.le_of_ble_eq_true rfl, Nat.le_of_ble_eq_true rfl⟩) hP hD hS hA [0, 1, 2, 3] [4] [1, 2, 3, 4, 0] rfl rfl rfl (by decide) rfl rfl (fun H locs hP hD hS => ?_)
  refine va_last hx hb hK hP hD hS 4 1 rfl rfl (i := (0 : Int32)) (ix_d (by decide)) dL_measure_7 (fun H locs hP hD hS => ?_)
  have hP : va_P (dC, dI) vwCl [zX5 adB adA bs, zAL cO adA 3 lf, zX1 adL adc adp ads adr lmo lha lfo lma lst lou, zX2 adp pa1 pa2 pb pdt pld pme pmb ado plt, zAJ cJ adU 1 (vp_updL uo (0 : Int32).toNatClampNeg pme)] H := hP
  have hD : va_D A [zX5 adB adA bs, zAL cO adA 3 lf, zX1 adL adc adp ads adr lmo lha lfo lma lst lou, zX2 adp pa1 pa2 pb pdt pld pme pmb ado plt, zAJ cJ adU 1 (vp_updL uo (0 : Int32).toNatClampNeg pme)] := hD
  refine lv_goto (tgt := 14) hx hb dL_measure_8 (by decide) ?_
  refine lv_iconst (v := 0) hx hb dL_measure_14 (by decide) ?_
  exact hh_reti hQ (rfl) hx hb hr hlocks hP hK hD hS dL_measure_15
set_option maxHeartbeats 4000000 in
set_option maxRecDepth 100000 in
theorem c_L_measure_o (l : Launch) (dC : Nat → ClassId) (dI : Nat → Nat → Nat) (cI cJ cZ cO : ClassId) (adB adA : Nat) (bs : Int32) (lf : Nat → Option Nat) (adU : Nat) (uo : Nat → Int64) (lp : Int32) (sz : Nat) (hfl : l.stackTraces = false) (hlo : ¬ lp < (0 : Int32) → ¬ lp < (3 : Int32)) : Met l yL_measure (Cond.codeWith yL_measure cL_measure 4 (some .int) [(0, 8, 11, 13)] :: wAll) ({ frames := 8, cells := 1, slots := 6, locals := 124 }) (va_Pc [.ref adB, .int lp, .ref adU] (gP (dC, dI) [zX5 adB adA bs, zAL cO adA 3 lf, zAJ cJ adU 1 uo] (tyG cI cJ cZ cO) sz (gW (va_A [zX5 adB adA bs, zAL cO adA 3 lf, zAJ cJ adU 1 uo] sz)))) (va_Qi (fun r (_ : Unit) => r = (wr1 1)) (fun _ t => gB (dC, dI) (va_A [zX5 adB adA bs, zAL cO adA 3 lf, zAJ cJ adU 1 uo] sz) [zX5 adB adA bs, zAL cO adA 3 lf, zAJ cJ adU 1 uo] (tyG cI cJ cZ cO) t) (va_A [zX5 adB adA bs, zAL cO adA 3 lf, zAJ cJ adU 1 uo] sz)) 1 6 (va_A [zX5 adB adA bs, zAL cO adA 3 lf, zAJ cJ adU 1 uo] sz) := by
  refine va_MetW (cc := cL_measure) (maxL := 4) (ret := (some .int)) (by decide) rfl ?_
  intro p e s m args below meth c s₁ B hml hv
  obtain ⟨rfl, hsz, hP, hK, hD0, hG⟩ := hv
  have hx := B.exec
  have hb := B.bytes
  have hr := B.returns
  have hts := ht_of B.pre
  have hown : s.vm.findClass RL = some m.cls := findClass_of_methodNamed B.named
  have hlocks := B.notSynchronized
  have htab := vx_table (x := yL_measure) B (hts _ wd_3_139)
  subst hsz
  have hD := hD0.self (sz := s.heap.size)
  generalize hAe : va_A [zX5 adB adA bs, zAL cO adA 3 lf, zAJ cJ adU 1 uo] s.heap.size = A at hD hG ⊢
  have hA : ∀ q : Nat, s.heap.size ≤ q → A q := fun q h => by rw [← hAe]; exact Or.inr h
  have hS : va_S A s.heap s.heap [] := va_S.rf
  have hP : va_P (dC, dI) vwCl [zX5 adB adA bs, zAL cO adA 3 lf, zAJ cJ adU 1 uo] s.heap := hP
  have hl := lv_entry ([.ref adB, .int lp, .ref adU]) (n := 4) (Nat.le_of_ble_eq_true rfl)
  rw [lg_entry_eq]
  generalize (lg_sl ([.ref adB, .int lp, .ref adU]) ++ List.replicate (4 - (lg_sl ([.ref adB, .int lp, .ref adU])).length) Slot.unset).toArray = ls at hl ⊢
  have hl : lv_has ls 4 [(0, .ref adB), (1, .int lp), (2, .ref adU)] := hl
  refine hh_name (fun Q hQ => ?_)
  refine lv_aload_n hx hb dL_measure_0 rfl (lv_at hl 2 rfl) ?_
  refine lv_iconst (v := 0) hx hb dL_measure_1 (by decide) ?_
  refine lv_aload_n hx hb dL_measure_2 rfl (lv_at hl 0 rfl) ?_
  refine lv_iload_n hx hb dL_measure_3 rfl (lv_at hl 1 rfl) ?_
  refine hh_xcalll (w2 := [zX5 adB adA bs, zAL cO adA 3 lf, zAJ cJ adU 1 uo]) (vx_runV (As := [.int lp]) (rest := [.int (0 : Int32), .ref adU]) ⟨hx, hb, hml, hown, hts⟩ (c_X5_measure_o l dC dI cI cJ cZ cO adB adA bs lf lp _ hfl hlo) (cwV 1 hts (gd_V wd_3_140 wd_3_141 wd_3_142 wd_1_1 wd_3_143) rfl rfl rfl (by decide +kernel) ⟨Nat.le_of_ble_eq_true rfl, Nat.le_of_ble_eq_true rfl⟩) (hh_pV (ci := 5) (q := (RX5, TX5, 2)) (q0 := 0) rfl rfl (gT_c _) (gT_call hG.1 hS (va_free hD hS hA [0, 1] rfl)) hK hP hD [0, 1] rfl rfl) rfl rfl hl.1 rfl (lv_room (Nat.le_of_ble_eq_true rfl)) dL_measure_4 ⟨Nat.le_of_ble_eq_true rfl, Nat.le_of_ble_eq_true rfl⟩) hP hD hS hA [0, 1] [2] [1, 2, 0] rfl rfl rfl (by decide) rfl rfl rfl (fun E ce q9 H locs h1 hE hP hD hS hc1 hc2 hc3 => ?_) (fun H locs h1 hP hD hS => ?_)
  · skip
    have hc : 1 = 1 := rfl
    rw [hc] at hE
    subst hE
    refine vx_catch (name := exN 1) hown [] ⟨0, 8, 11, 13⟩ [] htab (fun _ h => nomatch h) rfl (by decide) (hts _ wd_2_22) (va_Nw.use rfl hG.1.2.1.2.2.2.2.1) hc1 hc2 hc3 ?_
    refine W.eq (g2 := F0 m 11 ls [.ref q9]) rfl ?_
    refine lv_astore_n (lv' := [(3, .ref q9), (0, .ref adB), (1, .int lp), (2, .ref adU)]) hx hb dL_measure_11 rfl hl (by decide) rfl (fun ls hl => ?_)
    refine lv_iconst (v := 1) hx hb dL_measure_12 (by decide) ?_
    refine W.widen (k := 1) (n := 6) (Nat.le_of_ble_eq_true rfl) (Nat.le_of_ble_eq_true rfl) ?_
    exact hh_reti hQ (((show (wr1 1) = 1 from by rw [hc]; rfl)).symm) hx hb hr hlocks hP hK hD hS dL_measure_13
  · skip
    exact absurd h1 (by decide)
def f_L_output_uo (lou : Int64) (uo : Nat → Int64) : Nat → Int64 := (vp_updL uo (0 : Int32).toNatClampNeg lou)
set_option maxHeartbeats 4000000 in
set_option maxRecDepth 100000 in
theorem c_L_output (l : Launch) (dC : Nat → ClassId) (dI : Nat → Nat → Nat) (cI cJ cZ cO : ClassId) (adB adA : Nat) (bs : Int32) (lf : Nat → Option Nat) (adL adc adp ads adr : Nat) (lmo : Int32) (lha : Int64) (lfo lma lst : Int32) (lou : Int64) (adU : Nat) (uo : Nat → Int64) (lp : Int32) (sz : Nat) (hfl : l.stackTraces = false) (hl0 : ¬ lp < (0 : Int32)) (hl3 : lp < (3 : Int32)) (hlf : lf lp.toNatClampNeg = some adL) : Met l yL_output (Cond.codeWith yL_output cL_output 4 (some .int) [(0, 8, 11, 13)] :: wAll) ({ frames := 2, cells := 0, slots := 0, locals := 42 }) (va_Pc [.ref adB, .int lp, .ref adU] (gP (dC, dI) [zX5 adB adA bs, zAL cO adA 3 lf, zX1 adL adc adp ads adr lmo lha lfo lma lst lou, zAJ cJ adU 1 uo] (tyG cI cJ cZ cO) sz (gW (va_A [zX5 adB adA bs, zAL cO adA 3 lf, zX1 adL adc adp ads adr lmo lha lfo lma lst lou, zAJ cJ adU 1 uo] sz)))) (va_Qi (fun r (_ : Unit) => r = (0 : Int32)) (fun _ t => gB (dC, dI) (va_A [zX5 adB adA bs, zAL cO adA 3 lf, zX1 adL adc adp ads adr lmo lha lfo lma lst lou, zAJ cJ adU 1 uo] sz) [zX5 adB adA bs, zAL cO adA 3 lf, zX1 adL adc adp ads adr lmo lha lfo lma lst lou, zAJ cJ adU 1 (f_L_output_uo lou uo)] (tyG cI cJ cZ cO) t) (va_A [zX5 adB adA bs, zAL cO adA 3 lf, zX1 adL adc adp ads adr lmo lha lfo lma lst lou, zAJ cJ adU 1 uo] sz)) 0 0 (va_A [zX5 adB adA bs, zAL cO adA 3 lf, zX1 adL adc adp ads adr lmo lha lfo lma lst lou, zAJ cJ adU 1 uo] sz) := by
  refine va_MetW (cc := cL_output) (maxL := 4) (ret := (some .int)) (by decide) rfl ?_
  intro p e s m args below meth c s₁ B hml hv
  obtain ⟨rfl, hsz, hP, hK, hD0, hG⟩ := hv
  have hx := B.exec
  have hb := B.bytes
  have hr := B.returns
  have hts := ht_of B.pre
  have hown : s.vm.findClass RL = some m.cls := findClass_of_methodNamed B.named
  have hlocks := B.notSynchronized
  have htab := vx_table (x := yL_output) B (hts _ wd_3_146)
  subst hsz
  have hD := hD0.self (sz := s.heap.size)
  generalize hAe : va_A [zX5 adB adA bs, zAL cO adA 3 lf, zX1 adL adc adp ads adr lmo lha lfo lma lst lou, zAJ cJ adU 1 uo] s.heap.size = A at hD hG ⊢
  have hA : ∀ q : Nat, s.heap.size ≤ q → A q := fun q h => by rw [← hAe]; exact Or.inr h
  have hS : va_S A s.heap s.heap [] := va_S.rf
  have hP : va_P (dC, dI) vwCl [zX5 adB adA bs, zAL cO adA 3 lf, zX1 adL adc adp ads adr lmo lha lfo lma lst lou, zAJ cJ adU 1 uo] s.heap := hP
  have hl := lv_entry ([.ref adB, .int lp, .ref adU]) (n := 4) (Nat.le_of_ble_eq_true rfl)
  rw [lg_entry_eq]
  generalize (lg_sl ([.ref adB, .int lp, .ref adU]) ++ List.replicate (4 - (lg_sl ([.ref adB, .int lp, .ref adU])).length) Slot.unset).toArray = ls at hl ⊢
  have hl : lv_has ls 4 [(0, .ref adB), (1, .int lp), (2, .ref adU)] := hl
  refine hh_name (fun Q hQ => ?_)
  refine lv_aload_n hx hb dL_output_0 rfl (lv_at hl 2 rfl) ?_
  refine lv_iconst (v := 0) hx hb dL_output_1 (by decide) ?_
  refine lv_aload_n hx hb dL_output_2 rfl (lv_at hl 0 rfl) ?_
  refine lv_iload_n hx hb dL_output_3 rfl (lv_at hl 1 rfl) ?_
  refine hh_calll (w2 := [zX5 adB adA bs, zAL cO adA 3 lf, zX1 adL adc adp ads adr lmo lha lfo lma lst lou, zAJ cJ adU 1 uo]) (va_runV (As := [.int lp]) (rest := [.int (0 : Int32), .ref adU]) ⟨hx, hb, hml, hown, hts⟩ (c_X5_output l dC dI cI cJ cZ cO adB adA bs lf adL adc adp ads adr lmo lha lfo lma lst lou lp _ hl0 hl3 hlf) (cwV 1 hts (gd_V wd_3_147 wd_3_148 wd_3_149 wd_1_1 wd_3_150) rfl rfl rfl (by decide +kernel) ⟨Nat.le_of_ble_eq_true rfl, Nat.le_of_ble_eq_true rfl⟩) (hh_pV (ci := 5) (q := (RX5, TX5, 2)) (q0 := 0) rfl rfl gN_c (fun U _ hW => gN_w hW hG.1.1) hK hP hD [0, 1, 2] rfl rfl) rfl rfl hl.1 rfl (lv_room (Nat.le_of_ble_eq_true rfl)) dL_output_4 ⟨Nat.le_of_ble_eq_true rfl, Nat.le_of_ble_eq_true rfl⟩) hP hD hS hA [0, 1, 2] [3] [1, 2, 3, 0] rfl rfl rfl (by decide) rfl rfl (fun H locs hP hD hS => ?_)
  refine va_last hx hb hK hP hD hS 3 1 rfl rfl (i := (0 : Int32)) (ix_d (by decide)) dL_output_7 (fun H locs hP hD hS => ?_)
  have hP : va_P (dC, dI) vwCl [zX5 adB adA bs, zAL cO adA 3 lf, zX1 adL adc adp ads adr lmo lha lfo lma lst lou, zAJ cJ adU 1 (vp_updL uo (0 : Int32).toNatClampNeg lou)] H := hP
  have hD : va_D A [zX5 adB adA bs, zAL cO adA 3 lf, zX1 adL adc adp ads adr lmo lha lfo lma lst lou, zAJ cJ adU 1 (vp_updL uo (0 : Int32).toNatClampNeg lou)] := hD
  refine lv_goto (tgt := 14) hx hb dL_output_8 (by decide) ?_
  refine lv_iconst (v := 0) hx hb dL_output_14 (by decide) ?_
  exact hh_reti hQ (rfl) hx hb hr hlocks hP hK hD hS dL_output_15
set_option maxHeartbeats 4000000 in
set_option maxRecDepth 100000 in
theorem c_L_output_o (l : Launch) (dC : Nat → ClassId) (dI : Nat → Nat → Nat) (cI cJ cZ cO : ClassId) (adB adA : Nat) (bs : Int32) (lf : Nat → Option Nat) (adU : Nat) (uo : Nat → Int64) (lp : Int32) (sz : Nat) (hfl : l.stackTraces = false) (hlo : ¬ lp < (0 : Int32) → ¬ lp < (3 : Int32)) : Met l yL_output (Cond.codeWith yL_output cL_output 4 (some .int) [(0, 8, 11, 13)] :: wAll) ({ frames := 8, cells := 1, slots := 6, locals := 124 }) (va_Pc [.ref adB, .int lp, .ref adU] (gP (dC, dI) [zX5 adB adA bs, zAL cO adA 3 lf, zAJ cJ adU 1 uo] (tyG cI cJ cZ cO) sz (gW (va_A [zX5 adB adA bs, zAL cO adA 3 lf, zAJ cJ adU 1 uo] sz)))) (va_Qi (fun r (_ : Unit) => r = (wr1 1)) (fun _ t => gB (dC, dI) (va_A [zX5 adB adA bs, zAL cO adA 3 lf, zAJ cJ adU 1 uo] sz) [zX5 adB adA bs, zAL cO adA 3 lf, zAJ cJ adU 1 uo] (tyG cI cJ cZ cO) t) (va_A [zX5 adB adA bs, zAL cO adA 3 lf, zAJ cJ adU 1 uo] sz)) 1 6 (va_A [zX5 adB adA bs, zAL cO adA 3 lf, zAJ cJ adU 1 uo] sz) := by
  refine va_MetW (cc := cL_output) (maxL := 4) (ret := (some .int)) (by decide) rfl ?_
  intro p e s m args below meth c s₁ B hml hv
  obtain ⟨rfl, hsz, hP, hK, hD0, hG⟩ := hv
  have hx := B.exec
  have hb := B.bytes
  have hr := B.returns
  have hts := ht_of B.pre
  have hown : s.vm.findClass RL = some m.cls := findClass_of_methodNamed B.named
  have hlocks := B.notSynchronized
  have htab := vx_table (x := yL_output) B (hts _ wd_3_146)
  subst hsz
  have hD := hD0.self (sz := s.heap.size)
  generalize hAe : va_A [zX5 adB adA bs, zAL cO adA 3 lf, zAJ cJ adU 1 uo] s.heap.size = A at hD hG ⊢
  have hA : ∀ q : Nat, s.heap.size ≤ q → A q := fun q h => by rw [← hAe]; exact Or.inr h
  have hS : va_S A s.heap s.heap [] := va_S.rf
  have hP : va_P (dC, dI) vwCl [zX5 adB adA bs, zAL cO adA 3 lf, zAJ cJ adU 1 uo] s.heap := hP
  have hl := lv_entry ([.ref adB, .int lp, .ref adU]) (n := 4) (Nat.le_of_ble_eq_true rfl)
  rw [lg_entry_eq]
  generalize (lg_sl ([.ref adB, .int lp, .ref adU]) ++ List.replicate (4 - (lg_sl ([.ref adB, .int lp, .ref adU])).length) Slot.unset).toArray = ls at hl ⊢
  have hl : lv_has ls 4 [(0, .ref adB), (1, .int lp), (2, .ref adU)] := hl
  refine hh_name (fun Q hQ => ?_)
  refine lv_aload_n hx hb dL_output_0 rfl (lv_at hl 2 rfl) ?_
  refine lv_iconst (v := 0) hx hb dL_output_1 (by decide) ?_
  refine lv_aload_n hx hb dL_output_2 rfl (lv_at hl 0 rfl) ?_
  refine lv_iload_n hx hb dL_output_3 rfl (lv_at hl 1 rfl) ?_
  refine hh_xcalll (w2 := [zX5 adB adA bs, zAL cO adA 3 lf, zAJ cJ adU 1 uo]) (vx_runV (As := [.int lp]) (rest := [.int (0 : Int32), .ref adU]) ⟨hx, hb, hml, hown, hts⟩ (c_X5_output_o l dC dI cI cJ cZ cO adB adA bs lf lp _ hfl hlo) (cwV 1 hts (gd_V wd_3_147 wd_3_148 wd_3_149 wd_1_1 wd_3_150) rfl rfl rfl (by decide +kernel) ⟨Nat.le_of_ble_eq_true rfl, Nat.le_of_ble_eq_true rfl⟩) (hh_pV (ci := 5) (q := (RX5, TX5, 2)) (q0 := 0) rfl rfl (gT_c _) (gT_call hG.1 hS (va_free hD hS hA [0, 1] rfl)) hK hP hD [0, 1] rfl rfl) rfl rfl hl.1 rfl (lv_room (Nat.le_of_ble_eq_true rfl)) dL_output_4 ⟨Nat.le_of_ble_eq_true rfl, Nat.le_of_ble_eq_true rfl⟩) hP hD hS hA [0, 1] [2] [1, 2, 0] rfl rfl rfl (by decide) rfl rfl rfl (fun E ce q9 H locs h1 hE hP hD hS hc1 hc2 hc3 => ?_) (fun H locs h1 hP hD hS => ?_)
  · skip
    have hc : 1 = 1 := rfl
    rw [hc] at hE
    subst hE
    refine vx_catch (name := exN 1) hown [] ⟨0, 8, 11, 13⟩ [] htab (fun _ h => nomatch h) rfl (by decide) (hts _ wd_2_22) (va_Nw.use rfl hG.1.2.1.2.2.2.2.1) hc1 hc2 hc3 ?_
    refine W.eq (g2 := F0 m 11 ls [.ref q9]) rfl ?_
    refine lv_astore_n (lv' := [(3, .ref q9), (0, .ref adB), (1, .int lp), (2, .ref adU)]) hx hb dL_output_11 rfl hl (by decide) rfl (fun ls hl => ?_)
    refine lv_iconst (v := 1) hx hb dL_output_12 (by decide) ?_
    refine W.widen (k := 1) (n := 6) (Nat.le_of_ble_eq_true rfl) (Nat.le_of_ble_eq_true rfl) ?_
    exact hh_reti hQ (((show (wr1 1) = 1 from by rw [hc]; rfl)).symm) hx hb hr hlocks hP hK hD hS dL_output_13
  · skip
    exact absurd h1 (by decide)
def f_L_outputByIncrements_uo (ksu : Int64) (uo : Nat → Int64) : Nat → Int64 := (vp_updL uo (0 : Int32).toNatClampNeg (f_X5_outputByIncrements_r ksu))
set_option maxHeartbeats 4000000 in
set_option maxRecDepth 100000 in
theorem c_L_outputByIncrements (l : Launch) (dC : Nat → ClassId) (dI : Nat → Nat → Nat) (cI cJ cZ cO : ClassId) (adB adA : Nat) (bs : Int32) (lf : Nat → Option Nat) (adL adc adp ads adr : Nat) (lmo : Int32) (lha : Int64) (lfo lma lst : Int32) (lou : Int64) (kp ki kd klo khi kgu ksh khe : Int32) (ksp kig ksu kle klr : Int64) (kgo : Int32) (adU : Nat) (uo : Nat → Int64) (lp : Int32) (sz : Nat) (hfl : l.stackTraces = false) (hl0 : ¬ lp < (0 : Int32)) (hl3 : lp < (3 : Int32)) (hlf : lf lp.toNatClampNeg = some adL) : Met l yL_outputByIncrements (Cond.codeWith yL_outputByIncrements cL_outputByIncrements 4 (some .int) [(0, 8, 11, 13)] :: wAll) ({ frames := 2, cells := 0, slots := 0, locals := 46 }) (va_Pc [.ref adB, .int lp, .ref adU] (gP (dC, dI) [zX5 adB adA bs, zAL cO adA 3 lf, zX1 adL adc adp ads adr lmo lha lfo lma lst lou, zX0 adc kp ki kd klo khi kgu ksh khe ksp kig ksu adp kle klr kgo, zAJ cJ adU 1 uo] (tyG cI cJ cZ cO) sz (gW (va_A [zX5 adB adA bs, zAL cO adA 3 lf, zX1 adL adc adp ads adr lmo lha lfo lma lst lou, zX0 adc kp ki kd klo khi kgu ksh khe ksp kig ksu adp kle klr kgo, zAJ cJ adU 1 uo] sz)))) (va_Qi (fun r (_ : Unit) => r = (0 : Int32)) (fun _ t => gB (dC, dI) (va_A [zX5 adB adA bs, zAL cO adA 3 lf, zX1 adL adc adp ads adr lmo lha lfo lma lst lou, zX0 adc kp ki kd klo khi kgu ksh khe ksp kig ksu adp kle klr kgo, zAJ cJ adU 1 uo] sz) [zX5 adB adA bs, zAL cO adA 3 lf, zX1 adL adc adp ads adr lmo lha lfo lma lst lou, zX0 adc kp ki kd klo khi kgu ksh khe ksp kig ksu adp kle klr kgo, zAJ cJ adU 1 (f_L_outputByIncrements_uo ksu uo)] (tyG cI cJ cZ cO) t) (va_A [zX5 adB adA bs, zAL cO adA 3 lf, zX1 adL adc adp ads adr lmo lha lfo lma lst lou, zX0 adc kp ki kd klo khi kgu ksh khe ksp kig ksu adp kle klr kgo, zAJ cJ adU 1 uo] sz)) 0 0 (va_A [zX5 adB adA bs, zAL cO adA 3 lf, zX1 adL adc adp ads adr lmo lha lfo lma lst lou, zX0 adc kp ki kd klo khi kgu ksh khe ksp kig ksu adp kle klr kgo, zAJ cJ adU 1 uo] sz) := by
  refine va_MetW (cc := cL_outputByIncrements) (maxL := 4) (ret := (some .int)) (by decide) rfl ?_
  intro p e s m args below meth c s₁ B hml hv
  obtain ⟨rfl, hsz, hP, hK, hD0, hG⟩ := hv
  have hx := B.exec
  have hb := B.bytes
  have hr := B.returns
  have hts := ht_of B.pre
  have hown : s.vm.findClass RL = some m.cls := findClass_of_methodNamed B.named
  have hlocks := B.notSynchronized
  have htab := vx_table (x := yL_outputByIncrements) B (hts _ wd_3_153)
  subst hsz
  have hD := hD0.self (sz := s.heap.size)
  generalize hAe : va_A [zX5 adB adA bs, zAL cO adA 3 lf, zX1 adL adc adp ads adr lmo lha lfo lma lst lou, zX0 adc kp ki kd klo khi kgu ksh khe ksp kig ksu adp kle klr kgo, zAJ cJ adU 1 uo] s.heap.size = A at hD hG ⊢
  have hA : ∀ q : Nat, s.heap.size ≤ q → A q := fun q h => by rw [← hAe]; exact Or.inr h
  have hS : va_S A s.heap s.heap [] := va_S.rf
  have hP : va_P (dC, dI) vwCl [zX5 adB adA bs, zAL cO adA 3 lf, zX1 adL adc adp ads adr lmo lha lfo lma lst lou, zX0 adc kp ki kd klo khi kgu ksh khe ksp kig ksu adp kle klr kgo, zAJ cJ adU 1 uo] s.heap := hP
  have hl := lv_entry ([.ref adB, .int lp, .ref adU]) (n := 4) (Nat.le_of_ble_eq_true rfl)
  rw [lg_entry_eq]
  generalize (lg_sl ([.ref adB, .int lp, .ref adU]) ++ List.replicate (4 - (lg_sl ([.ref adB, .int lp, .ref adU])).length) Slot.unset).toArray = ls at hl ⊢
  have hl : lv_has ls 4 [(0, .ref adB), (1, .int lp), (2, .ref adU)] := hl
  refine hh_name (fun Q hQ => ?_)
  refine lv_aload_n hx hb dL_outputByIncrements_0 rfl (lv_at hl 2 rfl) ?_
  refine lv_iconst (v := 0) hx hb dL_outputByIncrements_1 (by decide) ?_
  refine lv_aload_n hx hb dL_outputByIncrements_2 rfl (lv_at hl 0 rfl) ?_
  refine lv_iload_n hx hb dL_outputByIncrements_3 rfl (lv_at hl 1 rfl) ?_
  refine hh_calll (w2 := [zX5 adB adA bs, zAL cO adA 3 lf, zX1 adL adc adp ads adr lmo lha lfo lma lst lou, zX0 adc kp ki kd klo khi kgu ksh khe ksp kig ksu adp kle klr kgo, zAJ cJ adU 1 uo]) (va_runV (As := [.int lp]) (rest := [.int (0 : Int32), .ref adU]) ⟨hx, hb, hml, hown, hts⟩ (c_X5_outputByIncrements l dC dI cI cJ cZ cO adB adA bs lf adL adc adp ads adr lmo lha lfo lma lst lou kp ki kd klo khi kgu ksh khe ksp kig ksu kle klr kgo lp _ hl0 hl3 hlf) (cwV 1 hts (gd_V wd_3_154 wd_3_155 wd_3_156 wd_1_1 wd_3_157) rfl rfl rfl (by decide +kernel) ⟨Nat.le_of_ble_eq_true rfl, Nat.le_of_ble_eq_true rfl⟩) (hh_pV (ci := 5) (q := (RX5, TX5, 2)) (q0 := 0) rfl rfl gN_c (fun U _ hW => gN_w hW hG.1.1) hK hP hD [0, 1, 2, 3] rfl rfl) rfl rfl hl.1 rfl (lv_room (Nat.le_of_ble_eq_true rfl)) dL_outputByIncrements_4 ⟨Nat.le_of_ble_eq_true rfl, Nat.le_of_ble_eq_true rfl⟩) hP hD hS hA [0, 1, 2, 3] [4] [1, 2, 3, 4, 0] rfl rfl rfl (by decide) rfl rfl (fun H locs hP hD hS => ?_)
  refine va_last hx hb hK hP hD hS 4 1 rfl rfl (i := (0 : Int32)) (ix_d (by decide)) dL_outputByIncrements_7 (fun H locs hP hD hS => ?_)
  have hP : va_P (dC, dI) vwCl [zX5 adB adA bs, zAL cO adA 3 lf, zX1 adL adc adp ads adr lmo lha lfo lma lst lou, zX0 adc kp ki kd klo khi kgu ksh khe ksp kig ksu adp kle klr kgo, zAJ cJ adU 1 (vp_updL uo (0 : Int32).toNatClampNeg (f_X5_outputByIncrements_r ksu))] H := hP
  have hD : va_D A [zX5 adB adA bs, zAL cO adA 3 lf, zX1 adL adc adp ads adr lmo lha lfo lma lst lou, zX0 adc kp ki kd klo khi kgu ksh khe ksp kig ksu adp kle klr kgo, zAJ cJ adU 1 (vp_updL uo (0 : Int32).toNatClampNeg (f_X5_outputByIncrements_r ksu))] := hD
  refine lv_goto (tgt := 14) hx hb dL_outputByIncrements_8 (by decide) ?_
  refine lv_iconst (v := 0) hx hb dL_outputByIncrements_14 (by decide) ?_
  exact hh_reti hQ (rfl) hx hb hr hlocks hP hK hD hS dL_outputByIncrements_15
set_option maxHeartbeats 4000000 in
set_option maxRecDepth 100000 in
theorem c_L_outputByIncrements_o (l : Launch) (dC : Nat → ClassId) (dI : Nat → Nat → Nat) (cI cJ cZ cO : ClassId) (adB adA : Nat) (bs : Int32) (lf : Nat → Option Nat) (adU : Nat) (uo : Nat → Int64) (lp : Int32) (sz : Nat) (hfl : l.stackTraces = false) (hlo : ¬ lp < (0 : Int32) → ¬ lp < (3 : Int32)) : Met l yL_outputByIncrements (Cond.codeWith yL_outputByIncrements cL_outputByIncrements 4 (some .int) [(0, 8, 11, 13)] :: wAll) ({ frames := 8, cells := 1, slots := 6, locals := 124 }) (va_Pc [.ref adB, .int lp, .ref adU] (gP (dC, dI) [zX5 adB adA bs, zAL cO adA 3 lf, zAJ cJ adU 1 uo] (tyG cI cJ cZ cO) sz (gW (va_A [zX5 adB adA bs, zAL cO adA 3 lf, zAJ cJ adU 1 uo] sz)))) (va_Qi (fun r (_ : Unit) => r = (wr1 1)) (fun _ t => gB (dC, dI) (va_A [zX5 adB adA bs, zAL cO adA 3 lf, zAJ cJ adU 1 uo] sz) [zX5 adB adA bs, zAL cO adA 3 lf, zAJ cJ adU 1 uo] (tyG cI cJ cZ cO) t) (va_A [zX5 adB adA bs, zAL cO adA 3 lf, zAJ cJ adU 1 uo] sz)) 1 6 (va_A [zX5 adB adA bs, zAL cO adA 3 lf, zAJ cJ adU 1 uo] sz) := by
  refine va_MetW (cc := cL_outputByIncrements) (maxL := 4) (ret := (some .int)) (by decide) rfl ?_
  intro p e s m args below meth c s₁ B hml hv
  obtain ⟨rfl, hsz, hP, hK, hD0, hG⟩ := hv
  have hx := B.exec
  have hb := B.bytes
  have hr := B.returns
  have hts := ht_of B.pre
  have hown : s.vm.findClass RL = some m.cls := findClass_of_methodNamed B.named
  have hlocks := B.notSynchronized
  have htab := vx_table (x := yL_outputByIncrements) B (hts _ wd_3_153)
  subst hsz
  have hD := hD0.self (sz := s.heap.size)
  generalize hAe : va_A [zX5 adB adA bs, zAL cO adA 3 lf, zAJ cJ adU 1 uo] s.heap.size = A at hD hG ⊢
  have hA : ∀ q : Nat, s.heap.size ≤ q → A q := fun q h => by rw [← hAe]; exact Or.inr h
  have hS : va_S A s.heap s.heap [] := va_S.rf
  have hP : va_P (dC, dI) vwCl [zX5 adB adA bs, zAL cO adA 3 lf, zAJ cJ adU 1 uo] s.heap := hP
  have hl := lv_entry ([.ref adB, .int lp, .ref adU]) (n := 4) (Nat.le_of_ble_eq_true rfl)
  rw [lg_entry_eq]
  generalize (lg_sl ([.ref adB, .int lp, .ref adU]) ++ List.replicate (4 - (lg_sl ([.ref adB, .int lp, .ref adU])).length) Slot.unset).toArray = ls at hl ⊢
  have hl : lv_has ls 4 [(0, .ref adB), (1, .int lp), (2, .ref adU)] := hl
  refine hh_name (fun Q hQ => ?_)
  refine lv_aload_n hx hb dL_outputByIncrements_0 rfl (lv_at hl 2 rfl) ?_
  refine lv_iconst (v := 0) hx hb dL_outputByIncrements_1 (by decide) ?_
  refine lv_aload_n hx hb dL_outputByIncrements_2 rfl (lv_at hl 0 rfl) ?_
  refine lv_iload_n hx hb dL_outputByIncrements_3 rfl (lv_at hl 1 rfl) ?_
  refine hh_xcalll (w2 := [zX5 adB adA bs, zAL cO adA 3 lf, zAJ cJ adU 1 uo]) (vx_runV (As := [.int lp]) (rest := [.int (0 : Int32), .ref adU]) ⟨hx, hb, hml, hown, hts⟩ (c_X5_outputByIncrements_o l dC dI cI cJ cZ cO adB adA bs lf lp _ hfl hlo) (cwV 1 hts (gd_V wd_3_154 wd_3_155 wd_3_156 wd_1_1 wd_3_157) rfl rfl rfl (by decide +kernel) ⟨Nat.le_of_ble_eq_true rfl, Nat.le_of_ble_eq_true rfl⟩) (hh_pV (ci := 5) (q := (RX5, TX5, 2)) (q0 := 0) rfl rfl (gT_c _) (gT_call hG.1 hS (va_free hD hS hA [0, 1] rfl)) hK hP hD [0, 1] rfl rfl) rfl rfl hl.1 rfl (lv_room (Nat.le_of_ble_eq_true rfl)) dL_outputByIncrements_4 ⟨Nat.le_of_ble_eq_true rfl, Nat.le_of_ble_eq_true rfl⟩) hP hD hS hA [0, 1] [2] [1, 2, 0] rfl rfl rfl (by decide) rfl rfl rfl (fun E ce q9 H locs h1 hE hP hD hS hc1 hc2 hc3 => ?_) (fun H locs h1 hP hD hS => ?_)
  · skip
    have hc : 1 = 1 := rfl
    rw [hc] at hE
    subst hE
    refine vx_catch (name := exN 1) hown [] ⟨0, 8, 11, 13⟩ [] htab (fun _ h => nomatch h) rfl (by decide) (hts _ wd_2_22) (va_Nw.use rfl hG.1.2.1.2.2.2.2.1) hc1 hc2 hc3 ?_
    refine W.eq (g2 := F0 m 11 ls [.ref q9]) rfl ?_
    refine lv_astore_n (lv' := [(3, .ref q9), (0, .ref adB), (1, .int lp), (2, .ref adU)]) hx hb dL_outputByIncrements_11 rfl hl (by decide) rfl (fun ls hl => ?_)
    refine lv_iconst (v := 1) hx hb dL_outputByIncrements_12 (by decide) ?_
    refine W.widen (k := 1) (n := 6) (Nat.le_of_ble_eq_true rfl) (Nat.le_of_ble_eq_true rfl) ?_
    exact hh_reti hQ (((show (wr1 1) = 1 from by rw [hc]; rfl)).symm) hx hb hr hlocks hP hK hD hS dL_outputByIncrements_13
  · skip
    exact absurd h1 (by decide)
def f_L_setpoint_uo (ksp : Int64) (uo : Nat → Int64) : Nat → Int64 := (vp_updL uo (0 : Int32).toNatClampNeg ksp)
set_option maxHeartbeats 4000000 in
set_option maxRecDepth 100000 in
theorem c_L_setpoint (l : Launch) (dC : Nat → ClassId) (dI : Nat → Nat → Nat) (cI cJ cZ cO : ClassId) (adB adA : Nat) (bs : Int32) (lf : Nat → Option Nat) (adL adc adp ads adr : Nat) (lmo : Int32) (lha : Int64) (lfo lma lst : Int32) (lou : Int64) (kp ki kd klo khi kgu ksh khe : Int32) (ksp kig ksu kle klr : Int64) (kgo : Int32) (adU : Nat) (uo : Nat → Int64) (lp : Int32) (sz : Nat) (hfl : l.stackTraces = false) (hl0 : ¬ lp < (0 : Int32)) (hl3 : lp < (3 : Int32)) (hlf : lf lp.toNatClampNeg = some adL) : Met l yL_setpoint (Cond.codeWith yL_setpoint cL_setpoint 4 (some .int) [(0, 8, 11, 13)] :: wAll) ({ frames := 2, cells := 0, slots := 0, locals := 42 }) (va_Pc [.ref adB, .int lp, .ref adU] (gP (dC, dI) [zX5 adB adA bs, zAL cO adA 3 lf, zX1 adL adc adp ads adr lmo lha lfo lma lst lou, zX0 adc kp ki kd klo khi kgu ksh khe ksp kig ksu adp kle klr kgo, zAJ cJ adU 1 uo] (tyG cI cJ cZ cO) sz (gW (va_A [zX5 adB adA bs, zAL cO adA 3 lf, zX1 adL adc adp ads adr lmo lha lfo lma lst lou, zX0 adc kp ki kd klo khi kgu ksh khe ksp kig ksu adp kle klr kgo, zAJ cJ adU 1 uo] sz)))) (va_Qi (fun r (_ : Unit) => r = (0 : Int32)) (fun _ t => gB (dC, dI) (va_A [zX5 adB adA bs, zAL cO adA 3 lf, zX1 adL adc adp ads adr lmo lha lfo lma lst lou, zX0 adc kp ki kd klo khi kgu ksh khe ksp kig ksu adp kle klr kgo, zAJ cJ adU 1 uo] sz) [zX5 adB adA bs, zAL cO adA 3 lf, zX1 adL adc adp ads adr lmo lha lfo lma lst lou, zX0 adc kp ki kd klo khi kgu ksh khe ksp kig ksu adp kle klr kgo, zAJ cJ adU 1 (f_L_setpoint_uo ksp uo)] (tyG cI cJ cZ cO) t) (va_A [zX5 adB adA bs, zAL cO adA 3 lf, zX1 adL adc adp ads adr lmo lha lfo lma lst lou, zX0 adc kp ki kd klo khi kgu ksh khe ksp kig ksu adp kle klr kgo, zAJ cJ adU 1 uo] sz)) 0 0 (va_A [zX5 adB adA bs, zAL cO adA 3 lf, zX1 adL adc adp ads adr lmo lha lfo lma lst lou, zX0 adc kp ki kd klo khi kgu ksh khe ksp kig ksu adp kle klr kgo, zAJ cJ adU 1 uo] sz) := by
  refine va_MetW (cc := cL_setpoint) (maxL := 4) (ret := (some .int)) (by decide) rfl ?_
  intro p e s m args below meth c s₁ B hml hv
  obtain ⟨rfl, hsz, hP, hK, hD0, hG⟩ := hv
  have hx := B.exec
  have hb := B.bytes
  have hr := B.returns
  have hts := ht_of B.pre
  have hown : s.vm.findClass RL = some m.cls := findClass_of_methodNamed B.named
  have hlocks := B.notSynchronized
  have htab := vx_table (x := yL_setpoint) B (hts _ wd_3_162)
  subst hsz
  have hD := hD0.self (sz := s.heap.size)
  generalize hAe : va_A [zX5 adB adA bs, zAL cO adA 3 lf, zX1 adL adc adp ads adr lmo lha lfo lma lst lou, zX0 adc kp ki kd klo khi kgu ksh khe ksp kig ksu adp kle klr kgo, zAJ cJ adU 1 uo] s.heap.size = A at hD hG ⊢
  have hA : ∀ q : Nat, s.heap.size ≤ q → A q := fun q h => by rw [← hAe]; exact Or.inr h
  have hS : va_S A s.heap s.heap [] := va_S.rf
  have hP : va_P (dC, dI) vwCl [zX5 adB adA bs, zAL cO adA 3 lf, zX1 adL adc adp ads adr lmo lha lfo lma lst lou, zX0 adc kp ki kd klo khi kgu ksh khe ksp kig ksu adp kle klr kgo, zAJ cJ adU 1 uo] s.heap := hP
  have hl := lv_entry ([.ref adB, .int lp, .ref adU]) (n := 4) (Nat.le_of_ble_eq_true rfl)
  rw [lg_entry_eq]
  generalize (lg_sl ([.ref adB, .int lp, .ref adU]) ++ List.replicate (4 - (lg_sl ([.ref adB, .int lp, .ref adU])).length) Slot.unset).toArray = ls at hl ⊢
  have hl : lv_has ls 4 [(0, .ref adB), (1, .int lp), (2, .ref adU)] := hl
  refine hh_name (fun Q hQ => ?_)
  refine lv_aload_n hx hb dL_setpoint_0 rfl (lv_at hl 2 rfl) ?_
  refine lv_iconst (v := 0) hx hb dL_setpoint_1 (by decide) ?_
  refine lv_aload_n hx hb dL_setpoint_2 rfl (lv_at hl 0 rfl) ?_
  refine lv_iload_n hx hb dL_setpoint_3 rfl (lv_at hl 1 rfl) ?_
  refine hh_calll (w2 := [zX5 adB adA bs, zAL cO adA 3 lf, zX1 adL adc adp ads adr lmo lha lfo lma lst lou, zX0 adc kp ki kd klo khi kgu ksh khe ksp kig ksu adp kle klr kgo, zAJ cJ adU 1 uo]) (va_runV (As := [.int lp]) (rest := [.int (0 : Int32), .ref adU]) ⟨hx, hb, hml, hown, hts⟩ (c_X5_setpoint l dC dI cI cJ cZ cO adB adA bs lf adL adc adp ads adr lmo lha lfo lma lst lou kp ki kd klo khi kgu ksh khe ksp kig ksu kle klr kgo lp _ hl0 hl3 hlf) (cwV 1 hts (gd_V wd_3_163 wd_3_164 wd_3_165 wd_1_1 wd_3_166) rfl rfl rfl (by decide +kernel) ⟨Nat.le_of_ble_eq_true rfl, Nat.le_of_ble_eq_true rfl⟩) (hh_pV (ci := 5) (q := (RX5, TX5, 2)) (q0 := 0) rfl rfl gN_c (fun U _ hW => gN_w hW hG.1.1) hK hP hD [0, 1, 2, 3] rfl rfl) rfl rfl hl.1 rfl (lv_room (Nat.le_of_ble_eq_true rfl)) dL_setpoint_4 ⟨Nat.le_of_ble_eq_true rfl, Nat.le_of_ble_eq_true rfl⟩) hP hD hS hA [0, 1, 2, 3] [4] [1, 2, 3, 4, 0] rfl rfl rfl (by decide) rfl rfl (fun H locs hP hD hS => ?_)
  refine va_last hx hb hK hP hD hS 4 1 rfl rfl (i := (0 : Int32)) (ix_d (by decide)) dL_setpoint_7 (fun H locs hP hD hS => ?_)
  have hP : va_P (dC, dI) vwCl [zX5 adB adA bs, zAL cO adA 3 lf, zX1 adL adc adp ads adr lmo lha lfo lma lst lou, zX0 adc kp ki kd klo khi kgu ksh khe ksp kig ksu adp kle klr kgo, zAJ cJ adU 1 (vp_updL uo (0 : Int32).toNatClampNeg ksp)] H := hP
  have hD : va_D A [zX5 adB adA bs, zAL cO adA 3 lf, zX1 adL adc adp ads adr lmo lha lfo lma lst lou, zX0 adc kp ki kd klo khi kgu ksh khe ksp kig ksu adp kle klr kgo, zAJ cJ adU 1 (vp_updL uo (0 : Int32).toNatClampNeg ksp)] := hD
  refine lv_goto (tgt := 14) hx hb dL_setpoint_8 (by decide) ?_
  refine lv_iconst (v := 0) hx hb dL_setpoint_14 (by decide) ?_
  exact hh_reti hQ (rfl) hx hb hr hlocks hP hK hD hS dL_setpoint_15
set_option maxHeartbeats 4000000 in
set_option maxRecDepth 100000 in
theorem c_L_setpoint_o (l : Launch) (dC : Nat → ClassId) (dI : Nat → Nat → Nat) (cI cJ cZ cO : ClassId) (adB adA : Nat) (bs : Int32) (lf : Nat → Option Nat) (adU : Nat) (uo : Nat → Int64) (lp : Int32) (sz : Nat) (hfl : l.stackTraces = false) (hlo : ¬ lp < (0 : Int32) → ¬ lp < (3 : Int32)) : Met l yL_setpoint (Cond.codeWith yL_setpoint cL_setpoint 4 (some .int) [(0, 8, 11, 13)] :: wAll) ({ frames := 8, cells := 1, slots := 6, locals := 124 }) (va_Pc [.ref adB, .int lp, .ref adU] (gP (dC, dI) [zX5 adB adA bs, zAL cO adA 3 lf, zAJ cJ adU 1 uo] (tyG cI cJ cZ cO) sz (gW (va_A [zX5 adB adA bs, zAL cO adA 3 lf, zAJ cJ adU 1 uo] sz)))) (va_Qi (fun r (_ : Unit) => r = (wr1 1)) (fun _ t => gB (dC, dI) (va_A [zX5 adB adA bs, zAL cO adA 3 lf, zAJ cJ adU 1 uo] sz) [zX5 adB adA bs, zAL cO adA 3 lf, zAJ cJ adU 1 uo] (tyG cI cJ cZ cO) t) (va_A [zX5 adB adA bs, zAL cO adA 3 lf, zAJ cJ adU 1 uo] sz)) 1 6 (va_A [zX5 adB adA bs, zAL cO adA 3 lf, zAJ cJ adU 1 uo] sz) := by
  refine va_MetW (cc := cL_setpoint) (maxL := 4) (ret := (some .int)) (by decide) rfl ?_
  intro p e s m args below meth c s₁ B hml hv
  obtain ⟨rfl, hsz, hP, hK, hD0, hG⟩ := hv
  have hx := B.exec
  have hb := B.bytes
  have hr := B.returns
  have hts := ht_of B.pre
  have hown : s.vm.findClass RL = some m.cls := findClass_of_methodNamed B.named
  have hlocks := B.notSynchronized
  have htab := vx_table (x := yL_setpoint) B (hts _ wd_3_162)
  subst hsz
  have hD := hD0.self (sz := s.heap.size)
  generalize hAe : va_A [zX5 adB adA bs, zAL cO adA 3 lf, zAJ cJ adU 1 uo] s.heap.size = A at hD hG ⊢
  have hA : ∀ q : Nat, s.heap.size ≤ q → A q := fun q h => by rw [← hAe]; exact Or.inr h
  have hS : va_S A s.heap s.heap [] := va_S.rf
  have hP : va_P (dC, dI) vwCl [zX5 adB adA bs, zAL cO adA 3 lf, zAJ cJ adU 1 uo] s.heap := hP
  have hl := lv_entry ([.ref adB, .int lp, .ref adU]) (n := 4) (Nat.le_of_ble_eq_true rfl)
  rw [lg_entry_eq]
  generalize (lg_sl ([.ref adB, .int lp, .ref adU]) ++ List.replicate (4 - (lg_sl ([.ref adB, .int lp, .ref adU])).length) Slot.unset).toArray = ls at hl ⊢
  have hl : lv_has ls 4 [(0, .ref adB), (1, .int lp), (2, .ref adU)] := hl
  refine hh_name (fun Q hQ => ?_)
  refine lv_aload_n hx hb dL_setpoint_0 rfl (lv_at hl 2 rfl) ?_
  refine lv_iconst (v := 0) hx hb dL_setpoint_1 (by decide) ?_
  refine lv_aload_n hx hb dL_setpoint_2 rfl (lv_at hl 0 rfl) ?_
  refine lv_iload_n hx hb dL_setpoint_3 rfl (lv_at hl 1 rfl) ?_
  refine hh_xcalll (w2 := [zX5 adB adA bs, zAL cO adA 3 lf, zAJ cJ adU 1 uo]) (vx_runV (As := [.int lp]) (rest := [.int (0 : Int32), .ref adU]) ⟨hx, hb, hml, hown, hts⟩ (c_X5_setpoint_o l dC dI cI cJ cZ cO adB adA bs lf lp _ hfl hlo) (cwV 1 hts (gd_V wd_3_163 wd_3_164 wd_3_165 wd_1_1 wd_3_166) rfl rfl rfl (by decide +kernel) ⟨Nat.le_of_ble_eq_true rfl, Nat.le_of_ble_eq_true rfl⟩) (hh_pV (ci := 5) (q := (RX5, TX5, 2)) (q0 := 0) rfl rfl (gT_c _) (gT_call hG.1 hS (va_free hD hS hA [0, 1] rfl)) hK hP hD [0, 1] rfl rfl) rfl rfl hl.1 rfl (lv_room (Nat.le_of_ble_eq_true rfl)) dL_setpoint_4 ⟨Nat.le_of_ble_eq_true rfl, Nat.le_of_ble_eq_true rfl⟩) hP hD hS hA [0, 1] [2] [1, 2, 0] rfl rfl rfl (by decide) rfl rfl rfl (fun E ce q9 H locs h1 hE hP hD hS hc1 hc2 hc3 => ?_) (fun H locs h1 hP hD hS => ?_)
  · skip
    have hc : 1 = 1 := rfl
    rw [hc] at hE
    subst hE
    refine vx_catch (name := exN 1) hown [] ⟨0, 8, 11, 13⟩ [] htab (fun _ h => nomatch h) rfl (by decide) (hts _ wd_2_22) (va_Nw.use rfl hG.1.2.1.2.2.2.2.1) hc1 hc2 hc3 ?_
    refine W.eq (g2 := F0 m 11 ls [.ref q9]) rfl ?_
    refine lv_astore_n (lv' := [(3, .ref q9), (0, .ref adB), (1, .int lp), (2, .ref adU)]) hx hb dL_setpoint_11 rfl hl (by decide) rfl (fun ls hl => ?_)
    refine lv_iconst (v := 1) hx hb dL_setpoint_12 (by decide) ?_
    refine W.widen (k := 1) (n := 6) (Nat.le_of_ble_eq_true rfl) (Nat.le_of_ble_eq_true rfl) ?_
    exact hh_reti hQ (((show (wr1 1) = 1 from by rw [hc]; rfl)).symm) hx hb hr hlocks hP hK hD hS dL_setpoint_13
  · skip
    exact absurd h1 (by decide)
def f_L_integral_uo (kig : Int64) (uo : Nat → Int64) : Nat → Int64 := (vp_updL uo (0 : Int32).toNatClampNeg kig)
set_option maxHeartbeats 4000000 in
set_option maxRecDepth 100000 in
theorem c_L_integral (l : Launch) (dC : Nat → ClassId) (dI : Nat → Nat → Nat) (cI cJ cZ cO : ClassId) (adB adA : Nat) (bs : Int32) (lf : Nat → Option Nat) (adL adc adp ads adr : Nat) (lmo : Int32) (lha : Int64) (lfo lma lst : Int32) (lou : Int64) (kp ki kd klo khi kgu ksh khe : Int32) (ksp kig ksu kle klr : Int64) (kgo : Int32) (adU : Nat) (uo : Nat → Int64) (lp : Int32) (sz : Nat) (hfl : l.stackTraces = false) (hl0 : ¬ lp < (0 : Int32)) (hl3 : lp < (3 : Int32)) (hlf : lf lp.toNatClampNeg = some adL) : Met l yL_integral (Cond.codeWith yL_integral cL_integral 4 (some .int) [(0, 8, 11, 13)] :: wAll) ({ frames := 2, cells := 0, slots := 0, locals := 42 }) (va_Pc [.ref adB, .int lp, .ref adU] (gP (dC, dI) [zX5 adB adA bs, zAL cO adA 3 lf, zX1 adL adc adp ads adr lmo lha lfo lma lst lou, zX0 adc kp ki kd klo khi kgu ksh khe ksp kig ksu adp kle klr kgo, zAJ cJ adU 1 uo] (tyG cI cJ cZ cO) sz (gW (va_A [zX5 adB adA bs, zAL cO adA 3 lf, zX1 adL adc adp ads adr lmo lha lfo lma lst lou, zX0 adc kp ki kd klo khi kgu ksh khe ksp kig ksu adp kle klr kgo, zAJ cJ adU 1 uo] sz)))) (va_Qi (fun r (_ : Unit) => r = (0 : Int32)) (fun _ t => gB (dC, dI) (va_A [zX5 adB adA bs, zAL cO adA 3 lf, zX1 adL adc adp ads adr lmo lha lfo lma lst lou, zX0 adc kp ki kd klo khi kgu ksh khe ksp kig ksu adp kle klr kgo, zAJ cJ adU 1 uo] sz) [zX5 adB adA bs, zAL cO adA 3 lf, zX1 adL adc adp ads adr lmo lha lfo lma lst lou, zX0 adc kp ki kd klo khi kgu ksh khe ksp kig ksu adp kle klr kgo, zAJ cJ adU 1 (f_L_integral_uo kig uo)] (tyG cI cJ cZ cO) t) (va_A [zX5 adB adA bs, zAL cO adA 3 lf, zX1 adL adc adp ads adr lmo lha lfo lma lst lou, zX0 adc kp ki kd klo khi kgu ksh khe ksp kig ksu adp kle klr kgo, zAJ cJ adU 1 uo] sz)) 0 0 (va_A [zX5 adB adA bs, zAL cO adA 3 lf, zX1 adL adc adp ads adr lmo lha lfo lma lst lou, zX0 adc kp ki kd klo khi kgu ksh khe ksp kig ksu adp kle klr kgo, zAJ cJ adU 1 uo] sz) := by
  refine va_MetW (cc := cL_integral) (maxL := 4) (ret := (some .int)) (by decide) rfl ?_
  intro p e s m args below meth c s₁ B hml hv
  obtain ⟨rfl, hsz, hP, hK, hD0, hG⟩ := hv
  have hx := B.exec
  have hb := B.bytes
  have hr := B.returns
  have hts := ht_of B.pre
  have hown : s.vm.findClass RL = some m.cls := findClass_of_methodNamed B.named
  have hlocks := B.notSynchronized
  have htab := vx_table (x := yL_integral) B (hts _ wd_3_169)
  subst hsz
  have hD := hD0.self (sz := s.heap.size)
  generalize hAe : va_A [zX5 adB adA bs, zAL cO adA 3 lf, zX1 adL adc adp ads adr lmo lha lfo lma lst lou, zX0 adc kp ki kd klo khi kgu ksh khe ksp kig ksu adp kle klr kgo, zAJ cJ adU 1 uo] s.heap.size = A at hD hG ⊢
  have hA : ∀ q : Nat, s.heap.size ≤ q → A q := fun q h => by rw [← hAe]; exact Or.inr h
  have hS : va_S A s.heap s.heap [] := va_S.rf
  have hP : va_P (dC, dI) vwCl [zX5 adB adA bs, zAL cO adA 3 lf, zX1 adL adc adp ads adr lmo lha lfo lma lst lou, zX0 adc kp ki kd klo khi kgu ksh khe ksp kig ksu adp kle klr kgo, zAJ cJ adU 1 uo] s.heap := hP
  have hl := lv_entry ([.ref adB, .int lp, .ref adU]) (n := 4) (Nat.le_of_ble_eq_true rfl)
  rw [lg_entry_eq]
  generalize (lg_sl ([.ref adB, .int lp, .ref adU]) ++ List.replicate (4 - (lg_sl ([.ref adB, .int lp, .ref adU])).length) Slot.unset).toArray = ls at hl ⊢
  have hl : lv_has ls 4 [(0, .ref adB), (1, .int lp), (2, .ref adU)] := hl
  refine hh_name (fun Q hQ => ?_)
  refine lv_aload_n hx hb dL_integral_0 rfl (lv_at hl 2 rfl) ?_
  refine lv_iconst (v := 0) hx hb dL_integral_1 (by decide) ?_
  refine lv_aload_n hx hb dL_integral_2 rfl (lv_at hl 0 rfl) ?_
  refine lv_iload_n hx hb dL_integral_3 rfl (lv_at hl 1 rfl) ?_
  refine hh_calll (w2 := [zX5 adB adA bs, zAL cO adA 3 lf, zX1 adL adc adp ads adr lmo lha lfo lma lst lou, zX0 adc kp ki kd klo khi kgu ksh khe ksp kig ksu adp kle klr kgo, zAJ cJ adU 1 uo]) (va_runV (As := [.int lp]) (rest := [.int (0 : Int32), .ref adU]) ⟨hx, hb, hml, hown, hts⟩ (c_X5_integral l dC dI cI cJ cZ cO adB adA bs lf adL adc adp ads adr lmo lha lfo lma lst lou kp ki kd klo khi kgu ksh khe ksp kig ksu kle klr kgo lp _ hl0 hl3 hlf) (cwV 1 hts (gd_V wd_3_170 wd_3_171 wd_3_172 wd_1_1 wd_3_173) rfl rfl rfl (by decide +kernel) ⟨Nat.le_of_ble_eq_true rfl, Nat.le_of_ble_eq_true rfl⟩) (hh_pV (ci := 5) (q := (RX5, TX5, 2)) (q0 := 0) rfl rfl gN_c (fun U _ hW => gN_w hW hG.1.1) hK hP hD [0, 1, 2, 3] rfl rfl) rfl rfl hl.1 rfl (lv_room (Nat.le_of_ble_eq_true rfl)) dL_integral_4 ⟨Nat.le_of_ble_eq_true rfl, Nat.le_of_ble_eq_true rfl⟩) hP hD hS hA [0, 1, 2, 3] [4] [1, 2, 3, 4, 0] rfl rfl rfl (by decide) rfl rfl (fun H locs hP hD hS => ?_)
  refine va_last hx hb hK hP hD hS 4 1 rfl rfl (i := (0 : Int32)) (ix_d (by decide)) dL_integral_7 (fun H locs hP hD hS => ?_)
  have hP : va_P (dC, dI) vwCl [zX5 adB adA bs, zAL cO adA 3 lf, zX1 adL adc adp ads adr lmo lha lfo lma lst lou, zX0 adc kp ki kd klo khi kgu ksh khe ksp kig ksu adp kle klr kgo, zAJ cJ adU 1 (vp_updL uo (0 : Int32).toNatClampNeg kig)] H := hP
  have hD : va_D A [zX5 adB adA bs, zAL cO adA 3 lf, zX1 adL adc adp ads adr lmo lha lfo lma lst lou, zX0 adc kp ki kd klo khi kgu ksh khe ksp kig ksu adp kle klr kgo, zAJ cJ adU 1 (vp_updL uo (0 : Int32).toNatClampNeg kig)] := hD
  refine lv_goto (tgt := 14) hx hb dL_integral_8 (by decide) ?_
  refine lv_iconst (v := 0) hx hb dL_integral_14 (by decide) ?_
  exact hh_reti hQ (rfl) hx hb hr hlocks hP hK hD hS dL_integral_15
set_option maxHeartbeats 4000000 in
set_option maxRecDepth 100000 in
theorem c_L_integral_o (l : Launch) (dC : Nat → ClassId) (dI : Nat → Nat → Nat) (cI cJ cZ cO : ClassId) (adB adA : Nat) (bs : Int32) (lf : Nat → Option Nat) (adU : Nat) (uo : Nat → Int64) (lp : Int32) (sz : Nat) (hfl : l.stackTraces = false) (hlo : ¬ lp < (0 : Int32) → ¬ lp < (3 : Int32)) : Met l yL_integral (Cond.codeWith yL_integral cL_integral 4 (some .int) [(0, 8, 11, 13)] :: wAll) ({ frames := 8, cells := 1, slots := 6, locals := 124 }) (va_Pc [.ref adB, .int lp, .ref adU] (gP (dC, dI) [zX5 adB adA bs, zAL cO adA 3 lf, zAJ cJ adU 1 uo] (tyG cI cJ cZ cO) sz (gW (va_A [zX5 adB adA bs, zAL cO adA 3 lf, zAJ cJ adU 1 uo] sz)))) (va_Qi (fun r (_ : Unit) => r = (wr1 1)) (fun _ t => gB (dC, dI) (va_A [zX5 adB adA bs, zAL cO adA 3 lf, zAJ cJ adU 1 uo] sz) [zX5 adB adA bs, zAL cO adA 3 lf, zAJ cJ adU 1 uo] (tyG cI cJ cZ cO) t) (va_A [zX5 adB adA bs, zAL cO adA 3 lf, zAJ cJ adU 1 uo] sz)) 1 6 (va_A [zX5 adB adA bs, zAL cO adA 3 lf, zAJ cJ adU 1 uo] sz) := by
  refine va_MetW (cc := cL_integral) (maxL := 4) (ret := (some .int)) (by decide) rfl ?_
  intro p e s m args below meth c s₁ B hml hv
  obtain ⟨rfl, hsz, hP, hK, hD0, hG⟩ := hv
  have hx := B.exec
  have hb := B.bytes
  have hr := B.returns
  have hts := ht_of B.pre
  have hown : s.vm.findClass RL = some m.cls := findClass_of_methodNamed B.named
  have hlocks := B.notSynchronized
  have htab := vx_table (x := yL_integral) B (hts _ wd_3_169)
  subst hsz
  have hD := hD0.self (sz := s.heap.size)
  generalize hAe : va_A [zX5 adB adA bs, zAL cO adA 3 lf, zAJ cJ adU 1 uo] s.heap.size = A at hD hG ⊢
  have hA : ∀ q : Nat, s.heap.size ≤ q → A q := fun q h => by rw [← hAe]; exact Or.inr h
  have hS : va_S A s.heap s.heap [] := va_S.rf
  have hP : va_P (dC, dI) vwCl [zX5 adB adA bs, zAL cO adA 3 lf, zAJ cJ adU 1 uo] s.heap := hP
  have hl := lv_entry ([.ref adB, .int lp, .ref adU]) (n := 4) (Nat.le_of_ble_eq_true rfl)
  rw [lg_entry_eq]
  generalize (lg_sl ([.ref adB, .int lp, .ref adU]) ++ List.replicate (4 - (lg_sl ([.ref adB, .int lp, .ref adU])).length) Slot.unset).toArray = ls at hl ⊢
  have hl : lv_has ls 4 [(0, .ref adB), (1, .int lp), (2, .ref adU)] := hl
  refine hh_name (fun Q hQ => ?_)
  refine lv_aload_n hx hb dL_integral_0 rfl (lv_at hl 2 rfl) ?_
  refine lv_iconst (v := 0) hx hb dL_integral_1 (by decide) ?_
  refine lv_aload_n hx hb dL_integral_2 rfl (lv_at hl 0 rfl) ?_
  refine lv_iload_n hx hb dL_integral_3 rfl (lv_at hl 1 rfl) ?_
  refine hh_xcalll (w2 := [zX5 adB adA bs, zAL cO adA 3 lf, zAJ cJ adU 1 uo]) (vx_runV (As := [.int lp]) (rest := [.int (0 : Int32), .ref adU]) ⟨hx, hb, hml, hown, hts⟩ (c_X5_integral_o l dC dI cI cJ cZ cO adB adA bs lf lp _ hfl hlo) (cwV 1 hts (gd_V wd_3_170 wd_3_171 wd_3_172 wd_1_1 wd_3_173) rfl rfl rfl (by decide +kernel) ⟨Nat.le_of_ble_eq_true rfl, Nat.le_of_ble_eq_true rfl⟩) (hh_pV (ci := 5) (q := (RX5, TX5, 2)) (q0 := 0) rfl rfl (gT_c _) (gT_call hG.1 hS (va_free hD hS hA [0, 1] rfl)) hK hP hD [0, 1] rfl rfl) rfl rfl hl.1 rfl (lv_room (Nat.le_of_ble_eq_true rfl)) dL_integral_4 ⟨Nat.le_of_ble_eq_true rfl, Nat.le_of_ble_eq_true rfl⟩) hP hD hS hA [0, 1] [2] [1, 2, 0] rfl rfl rfl (by decide) rfl rfl rfl (fun E ce q9 H locs h1 hE hP hD hS hc1 hc2 hc3 => ?_) (fun H locs h1 hP hD hS => ?_)
  · skip
    have hc : 1 = 1 := rfl
    rw [hc] at hE
    subst hE
    refine vx_catch (name := exN 1) hown [] ⟨0, 8, 11, 13⟩ [] htab (fun _ h => nomatch h) rfl (by decide) (hts _ wd_2_22) (va_Nw.use rfl hG.1.2.1.2.2.2.2.1) hc1 hc2 hc3 ?_
    refine W.eq (g2 := F0 m 11 ls [.ref q9]) rfl ?_
    refine lv_astore_n (lv' := [(3, .ref q9), (0, .ref adB), (1, .int lp), (2, .ref adU)]) hx hb dL_integral_11 rfl hl (by decide) rfl (fun ls hl => ?_)
    refine lv_iconst (v := 1) hx hb dL_integral_12 (by decide) ?_
    refine W.widen (k := 1) (n := 6) (Nat.le_of_ble_eq_true rfl) (Nat.le_of_ble_eq_true rfl) ?_
    exact hh_reti hQ (((show (wr1 1) = 1 from by rw [hc]; rfl)).symm) hx hb hr hlocks hP hK hD hS dL_integral_13
  · skip
    exact absurd h1 (by decide)
theorem bd_gain (wh : Int32) : f_X5_gain_x wh = 0 ∨ f_X5_gain_x wh = 1 := by
  have h0 := bd_requireGainNumber wh
  unfold f_X5_gain_x; repeat' split
  all_goals omega
def f_L_gain_uo (kp ki kd : Int32) (uo : Nat → Int64) (wh : Int32) : Nat → Int64 := if (f_X5_gain_x wh) = 0 then (vp_updL uo (0 : Int32).toNatClampNeg ((f_X5_gain_r kp ki kd wh).toInt64)) else uo
def f_L_gain_r (wh : Int32) : Int32 := if (f_X5_gain_x wh) = 0 then (0 : Int32) else (wr1 (f_X5_gain_x wh))
set_option maxHeartbeats 4000000 in
set_option maxRecDepth 100000 in
theorem c_L_gain (l : Launch) (dC : Nat → ClassId) (dI : Nat → Nat → Nat) (cI cJ cZ cO : ClassId) (adB adA : Nat) (bs : Int32) (lf : Nat → Option Nat) (adL adc adp ads adr : Nat) (lmo : Int32) (lha : Int64) (lfo lma lst : Int32) (lou : Int64) (kp ki kd klo khi kgu ksh khe : Int32) (ksp kig ksu kle klr : Int64) (kgo : Int32) (adU : Nat) (uo : Nat → Int64) (lp wh : Int32) (sz : Nat) (hfl : l.stackTraces = false) (hl0 : ¬ lp < (0 : Int32)) (hl3 : lp < (3 : Int32)) (hlf : lf lp.toNatClampNeg = some adL) : Met l yL_gain (Cond.codeWith yL_gain cL_gain 5 (some .int) [(0, 10, 13, 13)] :: wAll) ({ frames := 8, cells := 1, slots := 6, locals := 125 }) (va_Pc [.ref adB, .int lp, .int wh, .ref adU] (gP (dC, dI) [zX5 adB adA bs, zAL cO adA 3 lf, zX1 adL adc adp ads adr lmo lha lfo lma lst lou, zX0 adc kp ki kd klo khi kgu ksh khe ksp kig ksu adp kle klr kgo, zAJ cJ adU 1 uo] (tyG cI cJ cZ cO) sz (gW (va_A [zX5 adB adA bs, zAL cO adA 3 lf, zX1 adL adc adp ads adr lmo lha lfo lma lst lou, zX0 adc kp ki kd klo khi kgu ksh khe ksp kig ksu adp kle klr kgo, zAJ cJ adU 1 uo] sz)))) (va_Qi (fun r (_ : Unit) => r = (f_L_gain_r wh)) (fun _ t => gB (dC, dI) (va_A [zX5 adB adA bs, zAL cO adA 3 lf, zX1 adL adc adp ads adr lmo lha lfo lma lst lou, zX0 adc kp ki kd klo khi kgu ksh khe ksp kig ksu adp kle klr kgo, zAJ cJ adU 1 uo] sz) [zX5 adB adA bs, zAL cO adA 3 lf, zX1 adL adc adp ads adr lmo lha lfo lma lst lou, zX0 adc kp ki kd klo khi kgu ksh khe ksp kig ksu adp kle klr kgo, zAJ cJ adU 1 (f_L_gain_uo kp ki kd uo wh)] (tyG cI cJ cZ cO) t) (va_A [zX5 adB adA bs, zAL cO adA 3 lf, zX1 adL adc adp ads adr lmo lha lfo lma lst lou, zX0 adc kp ki kd klo khi kgu ksh khe ksp kig ksu adp kle klr kgo, zAJ cJ adU 1 uo] sz)) 1 6 (va_A [zX5 adB adA bs, zAL cO adA 3 lf, zX1 adL adc adp ads adr lmo lha lfo lma lst lou, zX0 adc kp ki kd klo khi kgu ksh khe ksp kig ksu adp kle klr kgo, zAJ cJ adU 1 uo] sz) := by
  refine va_MetW (cc := cL_gain) (maxL := 5) (ret := (some .int)) (by decide) rfl ?_
  intro p e s m args below meth c s₁ B hml hv
  obtain ⟨rfl, hsz, hP, hK, hD0, hG⟩ := hv
  have hx := B.exec
  have hb := B.bytes
  have hr := B.returns
  have hts := ht_of B.pre
  have hown : s.vm.findClass RL = some m.cls := findClass_of_methodNamed B.named
  have hlocks := B.notSynchronized
  have htab := vx_table (x := yL_gain) B (hts _ wd_3_176)
  subst hsz
  have hD := hD0.self (sz := s.heap.size)
  generalize hAe : va_A [zX5 adB adA bs, zAL cO adA 3 lf, zX1 adL adc adp ads adr lmo lha lfo lma lst lou, zX0 adc kp ki kd klo khi kgu ksh khe ksp kig ksu adp kle klr kgo, zAJ cJ adU 1 uo] s.heap.size = A at hD hG ⊢
  have hA : ∀ q : Nat, s.heap.size ≤ q → A q := fun q h => by rw [← hAe]; exact Or.inr h
  have hS : va_S A s.heap s.heap [] := va_S.rf
  have hP : va_P (dC, dI) vwCl [zX5 adB adA bs, zAL cO adA 3 lf, zX1 adL adc adp ads adr lmo lha lfo lma lst lou, zX0 adc kp ki kd klo khi kgu ksh khe ksp kig ksu adp kle klr kgo, zAJ cJ adU 1 uo] s.heap := hP
  have hl := lv_entry ([.ref adB, .int lp, .int wh, .ref adU]) (n := 5) (Nat.le_of_ble_eq_true rfl)
  rw [lg_entry_eq]
  generalize (lg_sl ([.ref adB, .int lp, .int wh, .ref adU]) ++ List.replicate (5 - (lg_sl ([.ref adB, .int lp, .int wh, .ref adU])).length) Slot.unset).toArray = ls at hl ⊢
  have hl : lv_has ls 5 [(0, .ref adB), (1, .int lp), (2, .int wh), (3, .ref adU)] := hl
  refine hh_name (fun Q hQ => ?_)
  refine lv_aload_n hx hb dL_gain_0 rfl (lv_at hl 3 rfl) ?_
  refine lv_iconst (v := 0) hx hb dL_gain_1 (by decide) ?_
  refine lv_aload_n hx hb dL_gain_2 rfl (lv_at hl 0 rfl) ?_
  refine lv_iload_n hx hb dL_gain_3 rfl (lv_at hl 1 rfl) ?_
  refine lv_iload_n hx hb dL_gain_4 rfl (lv_at hl 2 rfl) ?_
  refine hh_xcalli (w2 := [zX5 adB adA bs, zAL cO adA 3 lf, zX1 adL adc adp ads adr lmo lha lfo lma lst lou, zX0 adc kp ki kd klo khi kgu ksh khe ksp kig ksu adp kle klr kgo, zAJ cJ adU 1 uo]) (vx_runV (As := [.int lp, .int wh]) (rest := [.int (0 : Int32), .ref adU]) ⟨hx, hb, hml, hown, hts⟩ (c_X5_gain l dC dI cI cJ cZ cO adB adA bs lf adL adc adp ads adr lmo lha lfo lma lst lou kp ki kd klo khi kgu ksh khe ksp kig ksu kle klr kgo lp wh _ hfl hl0 hl3 hlf) (cwV 2 hts (gd_V wd_3_177 wd_3_178 wd_3_179 wd_1_1 wd_3_180) rfl rfl rfl (by decide +kernel) ⟨Nat.le_of_ble_eq_true rfl, Nat.le_of_ble_eq_true rfl⟩) (hh_pV (ci := 5) (q := (RX5, TX5, 2)) (q0 := 0) rfl rfl (gT_c _) (gT_call hG.1 hS (va_free hD hS hA [0, 1, 2, 3] rfl)) hK hP hD [0, 1, 2, 3] rfl rfl) rfl rfl hl.1 rfl (lv_room (Nat.le_of_ble_eq_true rfl)) dL_gain_5 ⟨Nat.le_of_ble_eq_true rfl, Nat.le_of_ble_eq_true rfl⟩) hP hD hS hA [0, 1, 2, 3] [4] [1, 2, 3, 4, 0] rfl rfl rfl (by decide) rfl rfl rfl (fun E ce q9 H locs h1 hE hP hD hS hc1 hc2 hc3 => ?_) (fun H locs h1 hP hD hS => ?_)
  · skip
    rcases bd_gain wh with hc | hc
    · exact absurd hc h1
    · skip
      rw [hc] at hE
      subst hE
      refine vx_catch (name := exN 1) hown [] ⟨0, 10, 13, 13⟩ [] htab (fun _ h => nomatch h) rfl (by decide) (hts _ wd_2_22) (va_Nw.use rfl hG.1.2.1.2.2.2.2.1) hc1 hc2 hc3 ?_
      refine W.eq (g2 := F0 m 13 ls [.ref q9]) rfl ?_
      refine lv_astore (lv' := [(4, .ref q9), (0, .ref adB), (1, .int lp), (2, .int wh), (3, .ref adU)]) hx hb dL_gain_13 hl (by decide) rfl (fun ls hl => ?_)
      refine lv_iconst (v := 1) hx hb dL_gain_15 (by decide) ?_
      refine W.widen (k := 1) (n := 6) (Nat.le_of_ble_eq_true rfl) (Nat.le_of_ble_eq_true rfl) ?_
      exact hh_reti hQ (((if_neg h1).trans (show (wr1 (f_X5_gain_x wh)) = 1 from by rw [hc]; rfl)).symm) hx hb hr hlocks (by rw [show (f_L_gain_uo kp ki kd uo wh) = uo from if_neg h1]; exact hP) hK (by rw [show (f_L_gain_uo kp ki kd uo wh) = uo from if_neg h1]; exact hD) hS dL_gain_16
  · skip
    refine lv_i2l hx hb dL_gain_8 rfl ?_
    refine va_last hx hb hK hP hD hS 4 1 rfl rfl (i := (0 : Int32)) (ix_d (by decide)) dL_gain_9 (fun H locs hP hD hS => ?_)
    have hP : va_P (dC, dI) vwCl [zX5 adB adA bs, zAL cO adA 3 lf, zX1 adL adc adp ads adr lmo lha lfo lma lst lou, zX0 adc kp ki kd klo khi kgu ksh khe ksp kig ksu adp kle klr kgo, zAJ cJ adU 1 (vp_updL uo (0 : Int32).toNatClampNeg ((f_X5_gain_r kp ki kd wh).toInt64))] H := hP
    have hD : va_D A [zX5 adB adA bs, zAL cO adA 3 lf, zX1 adL adc adp ads adr lmo lha lfo lma lst lou, zX0 adc kp ki kd klo khi kgu ksh khe ksp kig ksu adp kle klr kgo, zAJ cJ adU 1 (vp_updL uo (0 : Int32).toNatClampNeg ((f_X5_gain_r kp ki kd wh).toInt64))] := hD
    refine lv_goto (tgt := 17) hx hb dL_gain_10 (by decide) ?_
    refine lv_iconst (v := 0) hx hb dL_gain_17 (by decide) ?_
    exact hh_reti hQ ((if_pos h1).symm) hx hb hr hlocks (by rw [show (f_L_gain_uo kp ki kd uo wh) = (vp_updL uo (0 : Int32).toNatClampNeg ((f_X5_gain_r kp ki kd wh).toInt64)) from if_pos h1]; exact hP) hK (by rw [show (f_L_gain_uo kp ki kd uo wh) = (vp_updL uo (0 : Int32).toNatClampNeg ((f_X5_gain_r kp ki kd wh).toInt64)) from if_pos h1]; exact hD) hS dL_gain_18
set_option maxHeartbeats 4000000 in
set_option maxRecDepth 100000 in
theorem c_L_gain_o (l : Launch) (dC : Nat → ClassId) (dI : Nat → Nat → Nat) (cI cJ cZ cO : ClassId) (adB adA : Nat) (bs : Int32) (lf : Nat → Option Nat) (adU : Nat) (uo : Nat → Int64) (lp wh : Int32) (sz : Nat) (hfl : l.stackTraces = false) (hlo : ¬ lp < (0 : Int32) → ¬ lp < (3 : Int32)) : Met l yL_gain (Cond.codeWith yL_gain cL_gain 5 (some .int) [(0, 10, 13, 13)] :: wAll) ({ frames := 8, cells := 1, slots := 6, locals := 126 }) (va_Pc [.ref adB, .int lp, .int wh, .ref adU] (gP (dC, dI) [zX5 adB adA bs, zAL cO adA 3 lf, zAJ cJ adU 1 uo] (tyG cI cJ cZ cO) sz (gW (va_A [zX5 adB adA bs, zAL cO adA 3 lf, zAJ cJ adU 1 uo] sz)))) (va_Qi (fun r (_ : Unit) => r = (wr1 1)) (fun _ t => gB (dC, dI) (va_A [zX5 adB adA bs, zAL cO adA 3 lf, zAJ cJ adU 1 uo] sz) [zX5 adB adA bs, zAL cO adA 3 lf, zAJ cJ adU 1 uo] (tyG cI cJ cZ cO) t) (va_A [zX5 adB adA bs, zAL cO adA 3 lf, zAJ cJ adU 1 uo] sz)) 1 6 (va_A [zX5 adB adA bs, zAL cO adA 3 lf, zAJ cJ adU 1 uo] sz) := by
  refine va_MetW (cc := cL_gain) (maxL := 5) (ret := (some .int)) (by decide) rfl ?_
  intro p e s m args below meth c s₁ B hml hv
  obtain ⟨rfl, hsz, hP, hK, hD0, hG⟩ := hv
  have hx := B.exec
  have hb := B.bytes
  have hr := B.returns
  have hts := ht_of B.pre
  have hown : s.vm.findClass RL = some m.cls := findClass_of_methodNamed B.named
  have hlocks := B.notSynchronized
  have htab := vx_table (x := yL_gain) B (hts _ wd_3_176)
  subst hsz
  have hD := hD0.self (sz := s.heap.size)
  generalize hAe : va_A [zX5 adB adA bs, zAL cO adA 3 lf, zAJ cJ adU 1 uo] s.heap.size = A at hD hG ⊢
  have hA : ∀ q : Nat, s.heap.size ≤ q → A q := fun q h => by rw [← hAe]; exact Or.inr h
  have hS : va_S A s.heap s.heap [] := va_S.rf
  have hP : va_P (dC, dI) vwCl [zX5 adB adA bs, zAL cO adA 3 lf, zAJ cJ adU 1 uo] s.heap := hP
  have hl := lv_entry ([.ref adB, .int lp, .int wh, .ref adU]) (n := 5) (Nat.le_of_ble_eq_true rfl)
  rw [lg_entry_eq]
  generalize (lg_sl ([.ref adB, .int lp, .int wh, .ref adU]) ++ List.replicate (5 - (lg_sl ([.ref adB, .int lp, .int wh, .ref adU])).length) Slot.unset).toArray = ls at hl ⊢
  have hl : lv_has ls 5 [(0, .ref adB), (1, .int lp), (2, .int wh), (3, .ref adU)] := hl
  refine hh_name (fun Q hQ => ?_)
  refine lv_aload_n hx hb dL_gain_0 rfl (lv_at hl 3 rfl) ?_
  refine lv_iconst (v := 0) hx hb dL_gain_1 (by decide) ?_
  refine lv_aload_n hx hb dL_gain_2 rfl (lv_at hl 0 rfl) ?_
  refine lv_iload_n hx hb dL_gain_3 rfl (lv_at hl 1 rfl) ?_
  refine lv_iload_n hx hb dL_gain_4 rfl (lv_at hl 2 rfl) ?_
  refine hh_xcalli (w2 := [zX5 adB adA bs, zAL cO adA 3 lf, zAJ cJ adU 1 uo]) (vx_runV (As := [.int lp, .int wh]) (rest := [.int (0 : Int32), .ref adU]) ⟨hx, hb, hml, hown, hts⟩ (c_X5_gain_o l dC dI cI cJ cZ cO adB adA bs lf lp wh _ hfl hlo) (cwV 2 hts (gd_V wd_3_177 wd_3_178 wd_3_179 wd_1_1 wd_3_180) rfl rfl rfl (by decide +kernel) ⟨Nat.le_of_ble_eq_true rfl, Nat.le_of_ble_eq_true rfl⟩) (hh_pV (ci := 5) (q := (RX5, TX5, 2)) (q0 := 0) rfl rfl (gT_c _) (gT_call hG.1 hS (va_free hD hS hA [0, 1] rfl)) hK hP hD [0, 1] rfl rfl) rfl rfl hl.1 rfl (lv_room (Nat.le_of_ble_eq_true rfl)) dL_gain_5 ⟨Nat.le_of_ble_eq_true rfl, Nat.le_of_ble_eq_true rfl⟩) hP hD hS hA [0, 1] [2] [1, 2, 0] rfl rfl rfl (by decide) rfl rfl rfl (fun E ce q9 H locs h1 hE hP hD hS hc1 hc2 hc3 => ?_) (fun H locs h1 hP hD hS => ?_)
  · skip
    have hc : 1 = 1 := rfl
    rw [hc] at hE
    subst hE
    refine vx_catch (name := exN 1) hown [] ⟨0, 10, 13, 13⟩ [] htab (fun _ h => nomatch h) rfl (by decide) (hts _ wd_2_22) (va_Nw.use rfl hG.1.2.1.2.2.2.2.1) hc1 hc2 hc3 ?_
    refine W.eq (g2 := F0 m 13 ls [.ref q9]) rfl ?_
    refine lv_astore (lv' := [(4, .ref q9), (0, .ref adB), (1, .int lp), (2, .int wh), (3, .ref adU)]) hx hb dL_gain_13 hl (by decide) rfl (fun ls hl => ?_)
    refine lv_iconst (v := 1) hx hb dL_gain_15 (by decide) ?_
    refine W.widen (k := 1) (n := 6) (Nat.le_of_ble_eq_true rfl) (Nat.le_of_ble_eq_true rfl) ?_
    exact hh_reti hQ (((show (wr1 1) = 1 from by rw [hc]; rfl)).symm) hx hb hr hlocks hP hK hD hS dL_gain_16
  · skip
    exact absurd h1 (by decide)
def f_L_mode_uo (lmo : Int32) (uo : Nat → Int64) : Nat → Int64 := (vp_updL uo (0 : Int32).toNatClampNeg (lmo.toInt64))
set_option maxHeartbeats 4000000 in
set_option maxRecDepth 100000 in
theorem c_L_mode (l : Launch) (dC : Nat → ClassId) (dI : Nat → Nat → Nat) (cI cJ cZ cO : ClassId) (adB adA : Nat) (bs : Int32) (lf : Nat → Option Nat) (adL adc adp ads adr : Nat) (lmo : Int32) (lha : Int64) (lfo lma lst : Int32) (lou : Int64) (adU : Nat) (uo : Nat → Int64) (lp : Int32) (sz : Nat) (hfl : l.stackTraces = false) (hl0 : ¬ lp < (0 : Int32)) (hl3 : lp < (3 : Int32)) (hlf : lf lp.toNatClampNeg = some adL) : Met l yL_mode (Cond.codeWith yL_mode cL_mode 4 (some .int) [(0, 9, 12, 13)] :: wAll) ({ frames := 2, cells := 0, slots := 0, locals := 42 }) (va_Pc [.ref adB, .int lp, .ref adU] (gP (dC, dI) [zX5 adB adA bs, zAL cO adA 3 lf, zX1 adL adc adp ads adr lmo lha lfo lma lst lou, zAJ cJ adU 1 uo] (tyG cI cJ cZ cO) sz (gW (va_A [zX5 adB adA bs, zAL cO adA 3 lf, zX1 adL adc adp ads adr lmo lha lfo lma lst lou, zAJ cJ adU 1 uo] sz)))) (va_Qi (fun r (_ : Unit) => r = (0 : Int32)) (fun _ t => gB (dC, dI) (va_A [zX5 adB adA bs, zAL cO adA 3 lf, zX1 adL adc adp ads adr lmo lha lfo lma lst lou, zAJ cJ adU 1 uo] sz) [zX5 adB adA bs, zAL cO adA 3 lf, zX1 adL adc adp ads adr lmo lha lfo lma lst lou, zAJ cJ adU 1 (f_L_mode_uo lmo uo)] (tyG cI cJ cZ cO) t) (va_A [zX5 adB adA bs, zAL cO adA 3 lf, zX1 adL adc adp ads adr lmo lha lfo lma lst lou, zAJ cJ adU 1 uo] sz)) 0 0 (va_A [zX5 adB adA bs, zAL cO adA 3 lf, zX1 adL adc adp ads adr lmo lha lfo lma lst lou, zAJ cJ adU 1 uo] sz) := by
  refine va_MetW (cc := cL_mode) (maxL := 4) (ret := (some .int)) (by decide) rfl ?_
  intro p e s m args below meth c s₁ B hml hv
  obtain ⟨rfl, hsz, hP, hK, hD0, hG⟩ := hv
  have hx := B.exec
  have hb := B.bytes
  have hr := B.returns
  have hts := ht_of B.pre
  have hown : s.vm.findClass RL = some m.cls := findClass_of_methodNamed B.named
  have hlocks := B.notSynchronized
  have htab := vx_table (x := yL_mode) B (hts _ wd_3_187)
  subst hsz
  have hD := hD0.self (sz := s.heap.size)
  generalize hAe : va_A [zX5 adB adA bs, zAL cO adA 3 lf, zX1 adL adc adp ads adr lmo lha lfo lma lst lou, zAJ cJ adU 1 uo] s.heap.size = A at hD hG ⊢
  have hA : ∀ q : Nat, s.heap.size ≤ q → A q := fun q h => by rw [← hAe]; exact Or.inr h
  have hS : va_S A s.heap s.heap [] := va_S.rf
  have hP : va_P (dC, dI) vwCl [zX5 adB adA bs, zAL cO adA 3 lf, zX1 adL adc adp ads adr lmo lha lfo lma lst lou, zAJ cJ adU 1 uo] s.heap := hP
  have hl := lv_entry ([.ref adB, .int lp, .ref adU]) (n := 4) (Nat.le_of_ble_eq_true rfl)
  rw [lg_entry_eq]
  generalize (lg_sl ([.ref adB, .int lp, .ref adU]) ++ List.replicate (4 - (lg_sl ([.ref adB, .int lp, .ref adU])).length) Slot.unset).toArray = ls at hl ⊢
  have hl : lv_has ls 4 [(0, .ref adB), (1, .int lp), (2, .ref adU)] := hl
  refine hh_name (fun Q hQ => ?_)
  refine lv_aload_n hx hb dL_mode_0 rfl (lv_at hl 2 rfl) ?_
  refine lv_iconst (v := 0) hx hb dL_mode_1 (by decide) ?_
  refine lv_aload_n hx hb dL_mode_2 rfl (lv_at hl 0 rfl) ?_
  refine lv_iload_n hx hb dL_mode_3 rfl (lv_at hl 1 rfl) ?_
  refine hh_calli (w2 := [zX5 adB adA bs, zAL cO adA 3 lf, zX1 adL adc adp ads adr lmo lha lfo lma lst lou, zAJ cJ adU 1 uo]) (va_runV (As := [.int lp]) (rest := [.int (0 : Int32), .ref adU]) ⟨hx, hb, hml, hown, hts⟩ (c_X5_mode l dC dI cI cJ cZ cO adB adA bs lf adL adc adp ads adr lmo lha lfo lma lst lou lp _ hl0 hl3 hlf) (cwV 1 hts (gd_V wd_3_188 wd_3_189 wd_3_190 wd_1_1 wd_3_191) rfl rfl rfl (by decide +kernel) ⟨Nat.le_of_ble_eq_true rfl, Nat.le_of_ble_eq_true rfl⟩) (hh_pV (ci := 5) (q := (RX5, TX5, 2)) (q0 := 0) rfl rfl gN_c (fun U _ hW => gN_w hW hG.1.1) hK hP hD [0, 1, 2] rfl rfl) rfl rfl hl.1 rfl (lv_room (Nat.le_of_ble_eq_true rfl)) dL_mode_4 ⟨Nat.le_of_ble_eq_true rfl, Nat.le_of_ble_eq_true rfl⟩) hP hD hS hA [0, 1, 2] [3] [1, 2, 3, 0] rfl rfl rfl (by decide) rfl rfl (fun H locs hP hD hS => ?_)
  refine lv_i2l hx hb dL_mode_7 rfl ?_
  refine va_last hx hb hK hP hD hS 3 1 rfl rfl (i := (0 : Int32)) (ix_d (by decide)) dL_mode_8 (fun H locs hP hD hS => ?_)
  have hP : va_P (dC, dI) vwCl [zX5 adB adA bs, zAL cO adA 3 lf, zX1 adL adc adp ads adr lmo lha lfo lma lst lou, zAJ cJ adU 1 (vp_updL uo (0 : Int32).toNatClampNeg (lmo.toInt64))] H := hP
  have hD : va_D A [zX5 adB adA bs, zAL cO adA 3 lf, zX1 adL adc adp ads adr lmo lha lfo lma lst lou, zAJ cJ adU 1 (vp_updL uo (0 : Int32).toNatClampNeg (lmo.toInt64))] := hD
  refine lv_goto (tgt := 15) hx hb dL_mode_9 (by decide) ?_
  refine lv_iconst (v := 0) hx hb dL_mode_15 (by decide) ?_
  exact hh_reti hQ (rfl) hx hb hr hlocks hP hK hD hS dL_mode_16
set_option maxHeartbeats 4000000 in
set_option maxRecDepth 100000 in
theorem c_L_mode_o (l : Launch) (dC : Nat → ClassId) (dI : Nat → Nat → Nat) (cI cJ cZ cO : ClassId) (adB adA : Nat) (bs : Int32) (lf : Nat → Option Nat) (adU : Nat) (uo : Nat → Int64) (lp : Int32) (sz : Nat) (hfl : l.stackTraces = false) (hlo : ¬ lp < (0 : Int32) → ¬ lp < (3 : Int32)) : Met l yL_mode (Cond.codeWith yL_mode cL_mode 4 (some .int) [(0, 9, 12, 13)] :: wAll) ({ frames := 8, cells := 1, slots := 6, locals := 124 }) (va_Pc [.ref adB, .int lp, .ref adU] (gP (dC, dI) [zX5 adB adA bs, zAL cO adA 3 lf, zAJ cJ adU 1 uo] (tyG cI cJ cZ cO) sz (gW (va_A [zX5 adB adA bs, zAL cO adA 3 lf, zAJ cJ adU 1 uo] sz)))) (va_Qi (fun r (_ : Unit) => r = (wr1 1)) (fun _ t => gB (dC, dI) (va_A [zX5 adB adA bs, zAL cO adA 3 lf, zAJ cJ adU 1 uo] sz) [zX5 adB adA bs, zAL cO adA 3 lf, zAJ cJ adU 1 uo] (tyG cI cJ cZ cO) t) (va_A [zX5 adB adA bs, zAL cO adA 3 lf, zAJ cJ adU 1 uo] sz)) 1 6 (va_A [zX5 adB adA bs, zAL cO adA 3 lf, zAJ cJ adU 1 uo] sz) := by
  refine va_MetW (cc := cL_mode) (maxL := 4) (ret := (some .int)) (by decide) rfl ?_
  intro p e s m args below meth c s₁ B hml hv
  obtain ⟨rfl, hsz, hP, hK, hD0, hG⟩ := hv
  have hx := B.exec
  have hb := B.bytes
  have hr := B.returns
  have hts := ht_of B.pre
  have hown : s.vm.findClass RL = some m.cls := findClass_of_methodNamed B.named
  have hlocks := B.notSynchronized
  have htab := vx_table (x := yL_mode) B (hts _ wd_3_187)
  subst hsz
  have hD := hD0.self (sz := s.heap.size)
  generalize hAe : va_A [zX5 adB adA bs, zAL cO adA 3 lf, zAJ cJ adU 1 uo] s.heap.size = A at hD hG ⊢
  have hA : ∀ q : Nat, s.heap.size ≤ q → A q := fun q h => by rw [← hAe]; exact Or.inr h
  have hS : va_S A s.heap s.heap [] := va_S.rf
  have hP : va_P (dC, dI) vwCl [zX5 adB adA bs, zAL cO adA 3 lf, zAJ cJ adU 1 uo] s.heap := hP
  have hl := lv_entry ([.ref adB, .int lp, .ref adU]) (n := 4) (Nat.le_of_ble_eq_true rfl)
  rw [lg_entry_eq]
  generalize (lg_sl ([.ref adB, .int lp, .ref adU]) ++ List.replicate (4 - (lg_sl ([.ref adB, .int lp, .ref adU])).length) Slot.unset).toArray = ls at hl ⊢
  have hl : lv_has ls 4 [(0, .ref adB), (1, .int lp), (2, .ref adU)] := hl
  refine hh_name (fun Q hQ => ?_)
  refine lv_aload_n hx hb dL_mode_0 rfl (lv_at hl 2 rfl) ?_
  refine lv_iconst (v := 0) hx hb dL_mode_1 (by decide) ?_
  refine lv_aload_n hx hb dL_mode_2 rfl (lv_at hl 0 rfl) ?_
  refine lv_iload_n hx hb dL_mode_3 rfl (lv_at hl 1 rfl) ?_
  refine hh_xcalli (w2 := [zX5 adB adA bs, zAL cO adA 3 lf, zAJ cJ adU 1 uo]) (vx_runV (As := [.int lp]) (rest := [.int (0 : Int32), .ref adU]) ⟨hx, hb, hml, hown, hts⟩ (c_X5_mode_o l dC dI cI cJ cZ cO adB adA bs lf lp _ hfl hlo) (cwV 1 hts (gd_V wd_3_188 wd_3_189 wd_3_190 wd_1_1 wd_3_191) rfl rfl rfl (by decide +kernel) ⟨Nat.le_of_ble_eq_true rfl, Nat.le_of_ble_eq_true rfl⟩) (hh_pV (ci := 5) (q := (RX5, TX5, 2)) (q0 := 0) rfl rfl (gT_c _) (gT_call hG.1 hS (va_free hD hS hA [0, 1] rfl)) hK hP hD [0, 1] rfl rfl) rfl rfl hl.1 rfl (lv_room (Nat.le_of_ble_eq_true rfl)) dL_mode_4 ⟨Nat.le_of_ble_eq_true rfl, Nat.le_of_ble_eq_true rfl⟩) hP hD hS hA [0, 1] [2] [1, 2, 0] rfl rfl rfl (by decide) rfl rfl rfl (fun E ce q9 H locs h1 hE hP hD hS hc1 hc2 hc3 => ?_) (fun H locs h1 hP hD hS => ?_)
  · skip
    have hc : 1 = 1 := rfl
    rw [hc] at hE
    subst hE
    refine vx_catch (name := exN 1) hown [] ⟨0, 9, 12, 13⟩ [] htab (fun _ h => nomatch h) rfl (by decide) (hts _ wd_2_22) (va_Nw.use rfl hG.1.2.1.2.2.2.2.1) hc1 hc2 hc3 ?_
    refine W.eq (g2 := F0 m 12 ls [.ref q9]) rfl ?_
    refine lv_astore_n (lv' := [(3, .ref q9), (0, .ref adB), (1, .int lp), (2, .ref adU)]) hx hb dL_mode_12 rfl hl (by decide) rfl (fun ls hl => ?_)
    refine lv_iconst (v := 1) hx hb dL_mode_13 (by decide) ?_
    refine W.widen (k := 1) (n := 6) (Nat.le_of_ble_eq_true rfl) (Nat.le_of_ble_eq_true rfl) ?_
    exact hh_reti hQ (((show (wr1 1) = 1 from by rw [hc]; rfl)).symm) hx hb hr hlocks hP hK hD hS dL_mode_14
  · skip
    exact absurd h1 (by decide)
def f_L_wasStarved_j1_1 (lst : Int32) : Int64 := if lst = (0 : Int32) then (0 : Int64) else (1 : Int64)
def f_L_wasStarved_uo (lst : Int32) (uo : Nat → Int64) : Nat → Int64 := (vp_updL uo (0 : Int32).toNatClampNeg (f_L_wasStarved_j1_1 lst))
set_option maxHeartbeats 4000000 in
set_option maxRecDepth 100000 in
theorem c_L_wasStarved (l : Launch) (dC : Nat → ClassId) (dI : Nat → Nat → Nat) (cI cJ cZ cO : ClassId) (adB adA : Nat) (bs : Int32) (lf : Nat → Option Nat) (adL adc adp ads adr : Nat) (lmo : Int32) (lha : Int64) (lfo lma lst : Int32) (lou : Int64) (adU : Nat) (uo : Nat → Int64) (lp : Int32) (sz : Nat) (hfl : l.stackTraces = false) (hl0 : ¬ lp < (0 : Int32)) (hl3 : lp < (3 : Int32)) (hlf : lf lp.toNatClampNeg = some adL) (hzs : narrow .boolean (.int lst) = .int lst) : Met l yL_wasStarved (Cond.codeWith yL_wasStarved cL_wasStarved 4 (some .int) [(0, 16, 19, 13)] :: wAll) ({ frames := 2, cells := 0, slots := 0, locals := 42 }) (va_Pc [.ref adB, .int lp, .ref adU] (gP (dC, dI) [zX5 adB adA bs, zAL cO adA 3 lf, zX1 adL adc adp ads adr lmo lha lfo lma lst lou, zAJ cJ adU 1 uo] (tyG cI cJ cZ cO) sz (gW (va_A [zX5 adB adA bs, zAL cO adA 3 lf, zX1 adL adc adp ads adr lmo lha lfo lma lst lou, zAJ cJ adU 1 uo] sz)))) (va_Qi (fun r (_ : Unit) => r = (0 : Int32)) (fun _ t => gB (dC, dI) (va_A [zX5 adB adA bs, zAL cO adA 3 lf, zX1 adL adc adp ads adr lmo lha lfo lma lst lou, zAJ cJ adU 1 uo] sz) [zX5 adB adA bs, zAL cO adA 3 lf, zX1 adL adc adp ads adr lmo lha lfo lma lst lou, zAJ cJ adU 1 (f_L_wasStarved_uo lst uo)] (tyG cI cJ cZ cO) t) (va_A [zX5 adB adA bs, zAL cO adA 3 lf, zX1 adL adc adp ads adr lmo lha lfo lma lst lou, zAJ cJ adU 1 uo] sz)) 0 0 (va_A [zX5 adB adA bs, zAL cO adA 3 lf, zX1 adL adc adp ads adr lmo lha lfo lma lst lou, zAJ cJ adU 1 uo] sz) := by
  refine va_MetW (cc := cL_wasStarved) (maxL := 4) (ret := (some .int)) (by decide) rfl ?_
  intro p e s m args below meth c s₁ B hml hv
  obtain ⟨rfl, hsz, hP, hK, hD0, hG⟩ := hv
  have hx := B.exec
  have hb := B.bytes
  have hr := B.returns
  have hts := ht_of B.pre
  have hown : s.vm.findClass RL = some m.cls := findClass_of_methodNamed B.named
  have hlocks := B.notSynchronized
  have htab := vx_table (x := yL_wasStarved) B (hts _ wd_3_194)
  subst hsz
  have hD := hD0.self (sz := s.heap.size)
  generalize hAe : va_A [zX5 adB adA bs, zAL cO adA 3 lf, zX1 adL adc adp ads adr lmo lha lfo lma lst lou, zAJ cJ adU 1 uo] s.heap.size = A at hD hG ⊢
  have hA : ∀ q : Nat, s.heap.size ≤ q → A q := fun q h => by rw [← hAe]; exact Or.inr h
  have hS : va_S A s.heap s.heap [] := va_S.rf
  have hP : va_P (dC, dI) vwCl [zX5 adB adA bs, zAL cO adA 3 lf, zX1 adL adc adp ads adr lmo lha lfo lma lst lou, zAJ cJ adU 1 uo] s.heap := hP
  have hl := lv_entry ([.ref adB, .int lp, .ref adU]) (n := 4) (Nat.le_of_ble_eq_true rfl)
  rw [lg_entry_eq]
  generalize (lg_sl ([.ref adB, .int lp, .ref adU]) ++ List.replicate (4 - (lg_sl ([.ref adB, .int lp, .ref adU])).length) Slot.unset).toArray = ls at hl ⊢
  have hl : lv_has ls 4 [(0, .ref adB), (1, .int lp), (2, .ref adU)] := hl
  refine hh_name (fun Q hQ => ?_)
  refine lv_aload_n hx hb dL_wasStarved_0 rfl (lv_at hl 2 rfl) ?_
  refine lv_iconst (v := 0) hx hb dL_wasStarved_1 (by decide) ?_
  refine lv_aload_n hx hb dL_wasStarved_2 rfl (lv_at hl 0 rfl) ?_
  refine lv_iload_n hx hb dL_wasStarved_3 rfl (lv_at hl 1 rfl) ?_
  refine hh_calli (w2 := [zX5 adB adA bs, zAL cO adA 3 lf, zX1 adL adc adp ads adr lmo lha lfo lma lst lou, zAJ cJ adU 1 uo]) (va_runV (As := [.int lp]) (rest := [.int (0 : Int32), .ref adU]) ⟨hx, hb, hml, hown, hts⟩ (c_X5_wasStarved l dC dI cI cJ cZ cO adB adA bs lf adL adc adp ads adr lmo lha lfo lma lst lou lp _ hl0 hl3 hlf hzs) (cwV 1 hts (gd_V wd_3_195 wd_3_196 wd_3_197 wd_1_1 wd_3_198) rfl rfl rfl (by decide +kernel) ⟨Nat.le_of_ble_eq_true rfl, Nat.le_of_ble_eq_true rfl⟩) (hh_pV (ci := 5) (q := (RX5, TX5, 2)) (q0 := 0) rfl rfl gN_c (fun U _ hW => gN_w hW hG.1.1) hK hP hD [0, 1, 2] rfl rfl) rfl rfl hl.1 rfl (lv_room (Nat.le_of_ble_eq_true rfl)) dL_wasStarved_4 ⟨Nat.le_of_ble_eq_true rfl, Nat.le_of_ble_eq_true rfl⟩) hP hD hS hA [0, 1, 2] [3] [1, 2, 3, 0] rfl rfl rfl (by decide) rfl rfl (fun H locs hP hD hS => ?_)
  have J1 : ∀ (H : Heap) (locs : List Loc) (ls : Array Slot), va_P (dC, dI) vwCl [zX5 adB adA bs, zAL cO adA 3 lf, zX1 adL adc adp ads adr lmo lha lfo lma lst lou, zAJ cJ adU 1 uo] H → va_D A [zX5 adB adA bs, zAL cO adA 3 lf, zX1 adL adc adp ads adr lmo lha lfo lma lst lou, zAJ cJ adU 1 uo] → va_S A s.heap H locs → lv_has ls 4 [(0, .ref adB), (1, .int lp), (2, .ref adU)] → W p l e (headSpec (Cond.codeWith yL_wasStarved cL_wasStarved 4 (some .int) [(0, 16, 19, 13)] :: wAll) ({ frames := 2, cells := 0, slots := 0, locals := 42 })).room s m ([.ref adB, .int lp, .ref adU] : List Value).toArray below meth c H locs 0 0 Q (F0 m 15 ls [.long (f_L_wasStarved_j1_1 lst), .int (0 : Int32), .ref adU]) := by
    intro H locs ls hP hD hS hl
    refine va_last hx hb hK hP hD hS 3 1 rfl rfl (i := (0 : Int32)) (ix_d (by decide)) dL_wasStarved_15 (fun H locs hP hD hS => ?_)
    have hP : va_P (dC, dI) vwCl [zX5 adB adA bs, zAL cO adA 3 lf, zX1 adL adc adp ads adr lmo lha lfo lma lst lou, zAJ cJ adU 1 (vp_updL uo (0 : Int32).toNatClampNeg (f_L_wasStarved_j1_1 lst))] H := hP
    have hD : va_D A [zX5 adB adA bs, zAL cO adA 3 lf, zX1 adL adc adp ads adr lmo lha lfo lma lst lou, zAJ cJ adU 1 (vp_updL uo (0 : Int32).toNatClampNeg (f_L_wasStarved_j1_1 lst))] := hD
    refine lv_goto (tgt := 22) hx hb dL_wasStarved_16 (by decide) ?_
    refine lv_iconst (v := 0) hx hb dL_wasStarved_22 (by decide) ?_
    exact hh_reti hQ (rfl) hx hb hr hlocks hP hK hD hS dL_wasStarved_23
  refine lv_if_eq (tgt := 14) hx hb dL_wasStarved_7 (by decide) (fun h1 => ?_) (fun h1 => ?_)
  · skip
    refine lv_lconst (v := 0) hx hb dL_wasStarved_14 (by decide) ?_
    have e2 : (f_L_wasStarved_j1_1 lst) = (0 : Int64) := if_pos h1
    refine hh_setl (y := (f_L_wasStarved_j1_1 lst)) (if_pos h1) ?_
    exact J1 _ _ _ (hP) (hD) hS (lv_sub hl [0, 1, 2] rfl)
  · skip
    refine lv_lconst (v := 1) hx hb dL_wasStarved_10 (by decide) ?_
    refine lv_goto (tgt := 15) hx hb dL_wasStarved_11 (by decide) ?_
    have e3 : (f_L_wasStarved_j1_1 lst) = (1 : Int64) := if_neg h1
    refine hh_setl (y := (f_L_wasStarved_j1_1 lst)) (if_neg h1) ?_
    exact J1 _ _ _ (hP) (hD) hS (lv_sub hl [0, 1, 2] rfl)
set_option maxHeartbeats 4000000 in
set_option maxRecDepth 100000 in
theorem c_L_wasStarved_o (l : Launch) (dC : Nat → ClassId) (dI : Nat → Nat → Nat) (cI cJ cZ cO : ClassId) (adB adA : Nat) (bs : Int32) (lf : Nat → Option Nat) (adU : Nat) (uo : Nat → Int64) (lp : Int32) (sz : Nat) (hfl : l.stackTraces = false) (hlo : ¬ lp < (0 : Int32) → ¬ lp < (3 : Int32)) : Met l yL_wasStarved (Cond.codeWith yL_wasStarved cL_wasStarved 4 (some .int) [(0, 16, 19, 13)] :: wAll) ({ frames := 8, cells := 1, slots := 6, locals := 124 }) (va_Pc [.ref adB, .int lp, .ref adU] (gP (dC, dI) [zX5 adB adA bs, zAL cO adA 3 lf, zAJ cJ adU 1 uo] (tyG cI cJ cZ cO) sz (gW (va_A [zX5 adB adA bs, zAL cO adA 3 lf, zAJ cJ adU 1 uo] sz)))) (va_Qi (fun r (_ : Unit) => r = (wr1 1)) (fun _ t => gB (dC, dI) (va_A [zX5 adB adA bs, zAL cO adA 3 lf, zAJ cJ adU 1 uo] sz) [zX5 adB adA bs, zAL cO adA 3 lf, zAJ cJ adU 1 uo] (tyG cI cJ cZ cO) t) (va_A [zX5 adB adA bs, zAL cO adA 3 lf, zAJ cJ adU 1 uo] sz)) 1 6 (va_A [zX5 adB adA bs, zAL cO adA 3 lf, zAJ cJ adU 1 uo] sz) := by
  refine va_MetW (cc := cL_wasStarved) (maxL := 4) (ret := (some .int)) (by decide) rfl ?_
  intro p e s m args below meth c s₁ B hml hv
  obtain ⟨rfl, hsz, hP, hK, hD0, hG⟩ := hv
  have hx := B.exec
  have hb := B.bytes
  have hr := B.returns
  have hts := ht_of B.pre
  have hown : s.vm.findClass RL = some m.cls := findClass_of_methodNamed B.named
  have hlocks := B.notSynchronized
  have htab := vx_table (x := yL_wasStarved) B (hts _ wd_3_194)
  subst hsz
  have hD := hD0.self (sz := s.heap.size)
  generalize hAe : va_A [zX5 adB adA bs, zAL cO adA 3 lf, zAJ cJ adU 1 uo] s.heap.size = A at hD hG ⊢
  have hA : ∀ q : Nat, s.heap.size ≤ q → A q := fun q h => by rw [← hAe]; exact Or.inr h
  have hS : va_S A s.heap s.heap [] := va_S.rf
  have hP : va_P (dC, dI) vwCl [zX5 adB adA bs, zAL cO adA 3 lf, zAJ cJ adU 1 uo] s.heap := hP
  have hl := lv_entry ([.ref adB, .int lp, .ref adU]) (n := 4) (Nat.le_of_ble_eq_true rfl)
  rw [lg_entry_eq]
  generalize (lg_sl ([.ref adB, .int lp, .ref adU]) ++ List.replicate (4 - (lg_sl ([.ref adB, .int lp, .ref adU])).length) Slot.unset).toArray = ls at hl ⊢
  have hl : lv_has ls 4 [(0, .ref adB), (1, .int lp), (2, .ref adU)] := hl
  refine hh_name (fun Q hQ => ?_)
  refine lv_aload_n hx hb dL_wasStarved_0 rfl (lv_at hl 2 rfl) ?_
  refine lv_iconst (v := 0) hx hb dL_wasStarved_1 (by decide) ?_
  refine lv_aload_n hx hb dL_wasStarved_2 rfl (lv_at hl 0 rfl) ?_
  refine lv_iload_n hx hb dL_wasStarved_3 rfl (lv_at hl 1 rfl) ?_
  refine hh_xcalli (w2 := [zX5 adB adA bs, zAL cO adA 3 lf, zAJ cJ adU 1 uo]) (vx_runV (As := [.int lp]) (rest := [.int (0 : Int32), .ref adU]) ⟨hx, hb, hml, hown, hts⟩ (c_X5_wasStarved_o l dC dI cI cJ cZ cO adB adA bs lf lp _ hfl hlo) (cwV 1 hts (gd_V wd_3_195 wd_3_196 wd_3_197 wd_1_1 wd_3_198) rfl rfl rfl (by decide +kernel) ⟨Nat.le_of_ble_eq_true rfl, Nat.le_of_ble_eq_true rfl⟩) (hh_pV (ci := 5) (q := (RX5, TX5, 2)) (q0 := 0) rfl rfl (gT_c _) (gT_call hG.1 hS (va_free hD hS hA [0, 1] rfl)) hK hP hD [0, 1] rfl rfl) rfl rfl hl.1 rfl (lv_room (Nat.le_of_ble_eq_true rfl)) dL_wasStarved_4 ⟨Nat.le_of_ble_eq_true rfl, Nat.le_of_ble_eq_true rfl⟩) hP hD hS hA [0, 1] [2] [1, 2, 0] rfl rfl rfl (by decide) rfl rfl rfl (fun E ce q9 H locs h1 hE hP hD hS hc1 hc2 hc3 => ?_) (fun H locs h1 hP hD hS => ?_)
  · skip
    have hc : 1 = 1 := rfl
    rw [hc] at hE
    subst hE
    refine vx_catch (name := exN 1) hown [] ⟨0, 16, 19, 13⟩ [] htab (fun _ h => nomatch h) rfl (by decide) (hts _ wd_2_22) (va_Nw.use rfl hG.1.2.1.2.2.2.2.1) hc1 hc2 hc3 ?_
    refine W.eq (g2 := F0 m 19 ls [.ref q9]) rfl ?_
    refine lv_astore_n (lv' := [(3, .ref q9), (0, .ref adB), (1, .int lp), (2, .ref adU)]) hx hb dL_wasStarved_19 rfl hl (by decide) rfl (fun ls hl => ?_)
    refine lv_iconst (v := 1) hx hb dL_wasStarved_20 (by decide) ?_
    refine W.widen (k := 1) (n := 6) (Nat.le_of_ble_eq_true rfl) (Nat.le_of_ble_eq_true rfl) ?_
    exact hh_reti hQ (((show (wr1 1) = 1 from by rw [hc]; rfl)).symm) hx hb hr hlocks hP hK hD hS dL_wasStarved_21
  · skip
    exact absurd h1 (by decide)
def f_L_held_uo (khe : Int32) (uo : Nat → Int64) : Nat → Int64 := (vp_updL uo (0 : Int32).toNatClampNeg (khe.toInt64))
set_option maxHeartbeats 4000000 in
set_option maxRecDepth 100000 in
theorem c_L_held (l : Launch) (dC : Nat → ClassId) (dI : Nat → Nat → Nat) (cI cJ cZ cO : ClassId) (adB adA : Nat) (bs : Int32) (lf : Nat → Option Nat) (adL adc adp ads adr : Nat) (lmo : Int32) (lha : Int64) (lfo lma lst : Int32) (lou : Int64) (kp ki kd klo khi kgu ksh khe : Int32) (ksp kig ksu kle klr : Int64) (kgo : Int32) (adU : Nat) (uo : Nat → Int64) (lp : Int32) (sz : Nat) (hfl : l.stackTraces = false) (hl0 : ¬ lp < (0 : Int32)) (hl3 : lp < (3 : Int32)) (hlf : lf lp.toNatClampNeg = some adL) : Met l yL_held (Cond.codeWith yL_held cL_held 4 (some .int) [(0, 9, 12, 13)] :: wAll) ({ frames := 2, cells := 0, slots := 0, locals := 42 }) (va_Pc [.ref adB, .int lp, .ref adU] (gP (dC, dI) [zX5 adB adA bs, zAL cO adA 3 lf, zX1 adL adc adp ads adr lmo lha lfo lma lst lou, zX0 adc kp ki kd klo khi kgu ksh khe ksp kig ksu adp kle klr kgo, zAJ cJ adU 1 uo] (tyG cI cJ cZ cO) sz (gW (va_A [zX5 adB adA bs, zAL cO adA 3 lf, zX1 adL adc adp ads adr lmo lha lfo lma lst lou, zX0 adc kp ki kd klo khi kgu ksh khe ksp kig ksu adp kle klr kgo, zAJ cJ adU 1 uo] sz)))) (va_Qi (fun r (_ : Unit) => r = (0 : Int32)) (fun _ t => gB (dC, dI) (va_A [zX5 adB adA bs, zAL cO adA 3 lf, zX1 adL adc adp ads adr lmo lha lfo lma lst lou, zX0 adc kp ki kd klo khi kgu ksh khe ksp kig ksu adp kle klr kgo, zAJ cJ adU 1 uo] sz) [zX5 adB adA bs, zAL cO adA 3 lf, zX1 adL adc adp ads adr lmo lha lfo lma lst lou, zX0 adc kp ki kd klo khi kgu ksh khe ksp kig ksu adp kle klr kgo, zAJ cJ adU 1 (f_L_held_uo khe uo)] (tyG cI cJ cZ cO) t) (va_A [zX5 adB adA bs, zAL cO adA 3 lf, zX1 adL adc adp ads adr lmo lha lfo lma lst lou, zX0 adc kp ki kd klo khi kgu ksh khe ksp kig ksu adp kle klr kgo, zAJ cJ adU 1 uo] sz)) 0 0 (va_A [zX5 adB adA bs, zAL cO adA 3 lf, zX1 adL adc adp ads adr lmo lha lfo lma lst lou, zX0 adc kp ki kd klo khi kgu ksh khe ksp kig ksu adp kle klr kgo, zAJ cJ adU 1 uo] sz) := by
  refine va_MetW (cc := cL_held) (maxL := 4) (ret := (some .int)) (by decide) rfl ?_
  intro p e s m args below meth c s₁ B hml hv
  obtain ⟨rfl, hsz, hP, hK, hD0, hG⟩ := hv
  have hx := B.exec
  have hb := B.bytes
  have hr := B.returns
  have hts := ht_of B.pre
  have hown : s.vm.findClass RL = some m.cls := findClass_of_methodNamed B.named
  have hlocks := B.notSynchronized
  have htab := vx_table (x := yL_held) B (hts _ wd_3_201)
  subst hsz
  have hD := hD0.self (sz := s.heap.size)
  generalize hAe : va_A [zX5 adB adA bs, zAL cO adA 3 lf, zX1 adL adc adp ads adr lmo lha lfo lma lst lou, zX0 adc kp ki kd klo khi kgu ksh khe ksp kig ksu adp kle klr kgo, zAJ cJ adU 1 uo] s.heap.size = A at hD hG ⊢
  have hA : ∀ q : Nat, s.heap.size ≤ q → A q := fun q h => by rw [← hAe]; exact Or.inr h
  have hS : va_S A s.heap s.heap [] := va_S.rf
  have hP : va_P (dC, dI) vwCl [zX5 adB adA bs, zAL cO adA 3 lf, zX1 adL adc adp ads adr lmo lha lfo lma lst lou, zX0 adc kp ki kd klo khi kgu ksh khe ksp kig ksu adp kle klr kgo, zAJ cJ adU 1 uo] s.heap := hP
  have hl := lv_entry ([.ref adB, .int lp, .ref adU]) (n := 4) (Nat.le_of_ble_eq_true rfl)
  rw [lg_entry_eq]
  generalize (lg_sl ([.ref adB, .int lp, .ref adU]) ++ List.replicate (4 - (lg_sl ([.ref adB, .int lp, .ref adU])).length) Slot.unset).toArray = ls at hl ⊢
  have hl : lv_has ls 4 [(0, .ref adB), (1, .int lp), (2, .ref adU)] := hl
  refine hh_name (fun Q hQ => ?_)
  refine lv_aload_n hx hb dL_held_0 rfl (lv_at hl 2 rfl) ?_
  refine lv_iconst (v := 0) hx hb dL_held_1 (by decide) ?_
  refine lv_aload_n hx hb dL_held_2 rfl (lv_at hl 0 rfl) ?_
  refine lv_iload_n hx hb dL_held_3 rfl (lv_at hl 1 rfl) ?_
  refine hh_calli (w2 := [zX5 adB adA bs, zAL cO adA 3 lf, zX1 adL adc adp ads adr lmo lha lfo lma lst lou, zX0 adc kp ki kd klo khi kgu ksh khe ksp kig ksu adp kle klr kgo, zAJ cJ adU 1 uo]) (va_runV (As := [.int lp]) (rest := [.int (0 : Int32), .ref adU]) ⟨hx, hb, hml, hown, hts⟩ (c_X5_held l dC dI cI cJ cZ cO adB adA bs lf adL adc adp ads adr lmo lha lfo lma lst lou kp ki kd klo khi kgu ksh khe ksp kig ksu kle klr kgo lp _ hl0 hl3 hlf) (cwV 1 hts (gd_V wd_3_202 wd_3_203 wd_3_204 wd_1_1 wd_3_205) rfl rfl rfl (by decide +kernel) ⟨Nat.le_of_ble_eq_true rfl, Nat.le_of_ble_eq_true rfl⟩) (hh_pV (ci := 5) (q := (RX5, TX5, 2)) (q0 := 0) rfl rfl gN_c (fun U _ hW => gN_w hW hG.1.1) hK hP hD [0, 1, 2, 3] rfl rfl) rfl rfl hl.1 rfl (lv_room (Nat.le_of_ble_eq_true rfl)) dL_held_4 ⟨Nat.le_of_ble_eq_true rfl, Nat.le_of_ble_eq_true rfl⟩) hP hD hS hA [0, 1, 2, 3] [4] [1, 2, 3, 4, 0] rfl rfl rfl (by decide) rfl rfl (fun H locs hP hD hS => ?_)
  refine lv_i2l hx hb dL_held_7 rfl ?_
  refine va_last hx hb hK hP hD hS 4 1 rfl rfl (i := (0 : Int32)) (ix_d (by decide)) dL_held_8 (fun H locs hP hD hS => ?_)
  have hP : va_P (dC, dI) vwCl [zX5 adB adA bs, zAL cO adA 3 lf, zX1 adL adc adp ads adr lmo lha lfo lma lst lou, zX0 adc kp ki kd klo khi kgu ksh khe ksp kig ksu adp kle klr kgo, zAJ cJ adU 1 (vp_updL uo (0 : Int32).toNatClampNeg (khe.toInt64))] H := hP
  have hD : va_D A [zX5 adB adA bs, zAL cO adA 3 lf, zX1 adL adc adp ads adr lmo lha lfo lma lst lou, zX0 adc kp ki kd klo khi kgu ksh khe ksp kig ksu adp kle klr kgo, zAJ cJ adU 1 (vp_updL uo (0 : Int32).toNatClampNeg (khe.toInt64))] := hD
  refine lv_goto (tgt := 15) hx hb dL_held_9 (by decide) ?_
  refine lv_iconst (v := 0) hx hb dL_held_15 (by decide) ?_
  exact hh_reti hQ (rfl) hx hb hr hlocks hP hK hD hS dL_held_16
set_option maxHeartbeats 4000000 in
set_option maxRecDepth 100000 in
theorem c_L_held_o (l : Launch) (dC : Nat → ClassId) (dI : Nat → Nat → Nat) (cI cJ cZ cO : ClassId) (adB adA : Nat) (bs : Int32) (lf : Nat → Option Nat) (adU : Nat) (uo : Nat → Int64) (lp : Int32) (sz : Nat) (hfl : l.stackTraces = false) (hlo : ¬ lp < (0 : Int32) → ¬ lp < (3 : Int32)) : Met l yL_held (Cond.codeWith yL_held cL_held 4 (some .int) [(0, 9, 12, 13)] :: wAll) ({ frames := 8, cells := 1, slots := 6, locals := 124 }) (va_Pc [.ref adB, .int lp, .ref adU] (gP (dC, dI) [zX5 adB adA bs, zAL cO adA 3 lf, zAJ cJ adU 1 uo] (tyG cI cJ cZ cO) sz (gW (va_A [zX5 adB adA bs, zAL cO adA 3 lf, zAJ cJ adU 1 uo] sz)))) (va_Qi (fun r (_ : Unit) => r = (wr1 1)) (fun _ t => gB (dC, dI) (va_A [zX5 adB adA bs, zAL cO adA 3 lf, zAJ cJ adU 1 uo] sz) [zX5 adB adA bs, zAL cO adA 3 lf, zAJ cJ adU 1 uo] (tyG cI cJ cZ cO) t) (va_A [zX5 adB adA bs, zAL cO adA 3 lf, zAJ cJ adU 1 uo] sz)) 1 6 (va_A [zX5 adB adA bs, zAL cO adA 3 lf, zAJ cJ adU 1 uo] sz) := by
  refine va_MetW (cc := cL_held) (maxL := 4) (ret := (some .int)) (by decide) rfl ?_
  intro p e s m args below meth c s₁ B hml hv
  obtain ⟨rfl, hsz, hP, hK, hD0, hG⟩ := hv
  have hx := B.exec
  have hb := B.bytes
  have hr := B.returns
  have hts := ht_of B.pre
  have hown : s.vm.findClass RL = some m.cls := findClass_of_methodNamed B.named
  have hlocks := B.notSynchronized
  have htab := vx_table (x := yL_held) B (hts _ wd_3_201)
  subst hsz
  have hD := hD0.self (sz := s.heap.size)
  generalize hAe : va_A [zX5 adB adA bs, zAL cO adA 3 lf, zAJ cJ adU 1 uo] s.heap.size = A at hD hG ⊢
  have hA : ∀ q : Nat, s.heap.size ≤ q → A q := fun q h => by rw [← hAe]; exact Or.inr h
  have hS : va_S A s.heap s.heap [] := va_S.rf
  have hP : va_P (dC, dI) vwCl [zX5 adB adA bs, zAL cO adA 3 lf, zAJ cJ adU 1 uo] s.heap := hP
  have hl := lv_entry ([.ref adB, .int lp, .ref adU]) (n := 4) (Nat.le_of_ble_eq_true rfl)
  rw [lg_entry_eq]
  generalize (lg_sl ([.ref adB, .int lp, .ref adU]) ++ List.replicate (4 - (lg_sl ([.ref adB, .int lp, .ref adU])).length) Slot.unset).toArray = ls at hl ⊢
  have hl : lv_has ls 4 [(0, .ref adB), (1, .int lp), (2, .ref adU)] := hl
  refine hh_name (fun Q hQ => ?_)
  refine lv_aload_n hx hb dL_held_0 rfl (lv_at hl 2 rfl) ?_
  refine lv_iconst (v := 0) hx hb dL_held_1 (by decide) ?_
  refine lv_aload_n hx hb dL_held_2 rfl (lv_at hl 0 rfl) ?_
  refine lv_iload_n hx hb dL_held_3 rfl (lv_at hl 1 rfl) ?_
  refine hh_xcalli (w2 := [zX5 adB adA bs, zAL cO adA 3 lf, zAJ cJ adU 1 uo]) (vx_runV (As := [.int lp]) (rest := [.int (0 : Int32), .ref adU]) ⟨hx, hb, hml, hown, hts⟩ (c_X5_held_o l dC dI cI cJ cZ cO adB adA bs lf lp _ hfl hlo) (cwV 1 hts (gd_V wd_3_202 wd_3_203 wd_3_204 wd_1_1 wd_3_205) rfl rfl rfl (by decide +kernel) ⟨Nat.le_of_ble_eq_true rfl, Nat.le_of_ble_eq_true rfl⟩) (hh_pV (ci := 5) (q := (RX5, TX5, 2)) (q0 := 0) rfl rfl (gT_c _) (gT_call hG.1 hS (va_free hD hS hA [0, 1] rfl)) hK hP hD [0, 1] rfl rfl) rfl rfl hl.1 rfl (lv_room (Nat.le_of_ble_eq_true rfl)) dL_held_4 ⟨Nat.le_of_ble_eq_true rfl, Nat.le_of_ble_eq_true rfl⟩) hP hD hS hA [0, 1] [2] [1, 2, 0] rfl rfl rfl (by decide) rfl rfl rfl (fun E ce q9 H locs h1 hE hP hD hS hc1 hc2 hc3 => ?_) (fun H locs h1 hP hD hS => ?_)
  · skip
    have hc : 1 = 1 := rfl
    rw [hc] at hE
    subst hE
    refine vx_catch (name := exN 1) hown [] ⟨0, 9, 12, 13⟩ [] htab (fun _ h => nomatch h) rfl (by decide) (hts _ wd_2_22) (va_Nw.use rfl hG.1.2.1.2.2.2.2.1) hc1 hc2 hc3 ?_
    refine W.eq (g2 := F0 m 12 ls [.ref q9]) rfl ?_
    refine lv_astore_n (lv' := [(3, .ref q9), (0, .ref adB), (1, .int lp), (2, .ref adU)]) hx hb dL_held_12 rfl hl (by decide) rfl (fun ls hl => ?_)
    refine lv_iconst (v := 1) hx hb dL_held_13 (by decide) ?_
    refine W.widen (k := 1) (n := 6) (Nat.le_of_ble_eq_true rfl) (Nat.le_of_ble_eq_true rfl) ?_
    exact hh_reti hQ (((show (wr1 1) = 1 from by rw [hc]; rfl)).symm) hx hb hr hlocks hP hK hD hS dL_held_14
  · skip
    exact absurd h1 (by decide)
theorem bd_startRelay (lmo hev bav : Int32) : f_X5_startRelay_x lmo hev bav = 0 ∨ f_X5_startRelay_x lmo hev bav = 2 ∨ f_X5_startRelay_x lmo hev bav = 3 := by
  have h0 := bd_requireWithin hev (1 : Int32) (100000 : Int32)
  have h1 := bd_requireWithin bav (0 : Int32) (100000 : Int32)
  have h2 := bd_requireState (f_X5_startRelay_j1_1 lmo)
  unfold f_X5_startRelay_x; repeat' split
  all_goals omega
def f_L_startRelay_lmo (lmo hev bav : Int32) : Int32 := if (f_X5_startRelay_x lmo hev bav) = 0 then (3 : Int32) else lmo
def f_L_startRelay_rpr (lmo rpr hev bav : Int32) : Int32 := if (f_X5_startRelay_x lmo hev bav) = 0 then (1 : Int32) else rpr
def f_L_startRelay_rce (lmo : Int32) (lou rce : Int64) (hev bav : Int32) : Int64 := if (f_X5_startRelay_x lmo hev bav) = 0 then lou else rce
def f_L_startRelay_rhe (lmo rhe hev bav : Int32) : Int32 := if (f_X5_startRelay_x lmo hev bav) = 0 then hev else rhe
def f_L_startRelay_rba (lmo rba hev bav : Int32) : Int32 := if (f_X5_startRelay_x lmo hev bav) = 0 then bav else rba
def f_L_startRelay_rup (lmo rup hev bav : Int32) : Int32 := if (f_X5_startRelay_x lmo hev bav) = 0 then (1 : Int32) else rup
def f_L_startRelay_rsa (lmo rsa hev bav : Int32) : Int32 := if (f_X5_startRelay_x lmo hev bav) = 0 then (0 : Int32) else rsa
def f_L_startRelay_rri (lmo rri hev bav : Int32) : Int32 := if (f_X5_startRelay_x lmo hev bav) = 0 then (0 : Int32) else rri
def f_L_startRelay_r (lmo hev bav : Int32) : Int32 := if (f_X5_startRelay_x lmo hev bav) = 0 then (0 : Int32) else (wr123 (f_X5_startRelay_x lmo hev bav))
set_option maxHeartbeats 4000000 in
set_option maxRecDepth 100000 in
theorem c_L_startRelay (l : Launch) (dC : Nat → ClassId) (dI : Nat → Nat → Nat) (cI cJ cZ cO : ClassId) (adB adA : Nat) (bs : Int32) (lf : Nat → Option Nat) (adL adc adp ads adr : Nat) (lmo : Int32) (lha : Int64) (lfo lma lst : Int32) (lou : Int64) (rpr rpe : Int32) (rsw rce : Int64) (rhe rba rup rsa rri rse : Int32) (rgr rle : Int64) (lp hev bav : Int32) (sz : Nat) (hfl : l.stackTraces = false) (hl0 : ¬ lp < (0 : Int32)) (hl3 : lp < (3 : Int32)) (hlf : lf lp.toNatClampNeg = some adL) : Met l yL_startRelay (Cond.codeWith yL_startRelay cL_startRelay 5 (some .int) [(0, 7, 10, 13), (0, 7, 14, 15), (0, 7, 18, 25)] :: wAll) ({ frames := 9, cells := 3, slots := 18, locals := 148 }) (va_Pc [.ref adB, .int lp, .int hev, .int bav] (gP (dC, dI) [zX5 adB adA bs, zAL cO adA 3 lf, zX1 adL adc adp ads adr lmo lha lfo lma lst lou, zX3 adr rpr rpe rsw rce rhe rba rup rsa rri rse rgr rle] (tyG cI cJ cZ cO) sz (gW (va_A [zX5 adB adA bs, zAL cO adA 3 lf, zX1 adL adc adp ads adr lmo lha lfo lma lst lou, zX3 adr rpr rpe rsw rce rhe rba rup rsa rri rse rgr rle] sz)))) (va_Qi (fun r (_ : Unit) => r = (f_L_startRelay_r lmo hev bav)) (fun _ t => gB (dC, dI) (va_A [zX5 adB adA bs, zAL cO adA 3 lf, zX1 adL adc adp ads adr lmo lha lfo lma lst lou, zX3 adr rpr rpe rsw rce rhe rba rup rsa rri rse rgr rle] sz) [zX5 adB adA bs, zAL cO adA 3 lf, zX1 adL adc adp ads adr (f_L_startRelay_lmo lmo hev bav) lha lfo lma lst lou, zX3 adr (f_L_startRelay_rpr lmo rpr hev bav) rpe rsw (f_L_startRelay_rce lmo lou rce hev bav) (f_L_startRelay_rhe lmo rhe hev bav) (f_L_startRelay_rba lmo rba hev bav) (f_L_startRelay_rup lmo rup hev bav) (f_L_startRelay_rsa lmo rsa hev bav) (f_L_startRelay_rri lmo rri hev bav) rse rgr rle] (tyG cI cJ cZ cO) t) (va_A [zX5 adB adA bs, zAL cO adA 3 lf, zX1 adL adc adp ads adr lmo lha lfo lma lst lou, zX3 adr rpr rpe rsw rce rhe rba rup rsa rri rse rgr rle] sz)) 3 18 (va_A [zX5 adB adA bs, zAL cO adA 3 lf, zX1 adL adc adp ads adr lmo lha lfo lma lst lou, zX3 adr rpr rpe rsw rce rhe rba rup rsa rri rse rgr rle] sz) := by
  refine va_MetW (cc := cL_startRelay) (maxL := 5) (ret := (some .int)) (by decide) rfl ?_
  intro p e s m args below meth c s₁ B hml hv
  obtain ⟨rfl, hsz, hP, hK, hD0, hG⟩ := hv
  have hx := B.exec
  have hb := B.bytes
  have hr := B.returns
  have hts := ht_of B.pre
  have hown : s.vm.findClass RL = some m.cls := findClass_of_methodNamed B.named
  have hlocks := B.notSynchronized
  have htab := vx_table (x := yL_startRelay) B (hts _ wd_3_208)
  subst hsz
  have hD := hD0.self (sz := s.heap.size)
  generalize hAe : va_A [zX5 adB adA bs, zAL cO adA 3 lf, zX1 adL adc adp ads adr lmo lha lfo lma lst lou, zX3 adr rpr rpe rsw rce rhe rba rup rsa rri rse rgr rle] s.heap.size = A at hD hG ⊢
  have hA : ∀ q : Nat, s.heap.size ≤ q → A q := fun q h => by rw [← hAe]; exact Or.inr h
  have hS : va_S A s.heap s.heap [] := va_S.rf
  have hP : va_P (dC, dI) vwCl [zX5 adB adA bs, zAL cO adA 3 lf, zX1 adL adc adp ads adr lmo lha lfo lma lst lou, zX3 adr rpr rpe rsw rce rhe rba rup rsa rri rse rgr rle] s.heap := hP
  have hl := lv_entry ([.ref adB, .int lp, .int hev, .int bav]) (n := 5) (Nat.le_of_ble_eq_true rfl)
  rw [lg_entry_eq]
  generalize (lg_sl ([.ref adB, .int lp, .int hev, .int bav]) ++ List.replicate (5 - (lg_sl ([.ref adB, .int lp, .int hev, .int bav])).length) Slot.unset).toArray = ls at hl ⊢
  have hl : lv_has ls 5 [(0, .ref adB), (1, .int lp), (2, .int hev), (3, .int bav)] := hl
  refine hh_name (fun Q hQ => ?_)
  refine lv_aload_n hx hb dL_startRelay_0 rfl (lv_at hl 0 rfl) ?_
  refine lv_iload_n hx hb dL_startRelay_1 rfl (lv_at hl 1 rfl) ?_
  refine lv_iload_n hx hb dL_startRelay_2 rfl (lv_at hl 2 rfl) ?_
  refine lv_iload_n hx hb dL_startRelay_3 rfl (lv_at hl 3 rfl) ?_
  refine hh_xcallv (w2 := [zX5 adB adA bs, zAL cO adA 3 lf, zX1 adL adc adp ads adr (3 : Int32) lha lfo lma lst lou, zX3 adr (1 : Int32) rpe rsw lou hev bav (1 : Int32) (0 : Int32) (0 : Int32) rse rgr rle]) (vx_runV (As := [.int lp, .int hev, .int bav]) (rest := []) ⟨hx, hb, hml, hown, hts⟩ (c_X5_startRelay l dC dI cI cJ cZ cO adB adA bs lf adL adc adp ads adr lmo lha lfo lma lst lou rpr rpe rsw rce rhe rba rup rsa rri rse rgr rle lp hev bav _ hfl hl0 hl3 hlf) (cwV 3 hts (gd_V wd_3_209 wd_3_210 wd_3_211 wd_1_1 wd_3_212) rfl rfl rfl (by decide +kernel) ⟨Nat.le_of_ble_eq_true rfl, Nat.le_of_ble_eq_true rfl⟩) (hh_pV (ci := 5) (q := (RX5, TX5, 2)) (q0 := 0) rfl rfl (gT_c _) (gT_call hG.1 hS (va_free hD hS hA [0, 1, 2, 3] rfl)) hK hP hD [0, 1, 2, 3] rfl rfl) rfl rfl hl.1 rfl (lv_room (Nat.le_of_ble_eq_true rfl)) dL_startRelay_4 ⟨Nat.le_of_ble_eq_true rfl, Nat.le_of_ble_eq_true rfl⟩) hP hD hS hA [0, 1, 2, 3] [] [0, 1, 2, 3] rfl rfl rfl (by decide) rfl rfl rfl (fun E ce q9 H locs h1 hE hP hD hS hc1 hc2 hc3 => ?_) (fun H locs h1 hP hD hS => ?_)
  · skip
    rcases bd_startRelay lmo hev bav with hc | hc | hc
    · exact absurd hc h1
    · skip
      rw [hc] at hE
      subst hE
      refine vx_catch (name := exN 2) hown [⟨0, 7, 10, 13⟩] ⟨0, 7, 14, 15⟩ [⟨0, 7, 18, 25⟩] htab (List.forall_mem_cons.mpr ⟨Or.inr ⟨by decide, exN 1, hts _ wd_2_22, hG.2.1⟩, fun _ h => nomatch h⟩) rfl (by decide) (hts _ wd_2_23) (va_Nw.use rfl hG.1.2.1.2.2.2.2.2.1) hc1 hc2 hc3 ?_
      refine W.eq (g2 := F0 m 14 ls [.ref q9]) rfl ?_
      refine lv_astore (lv' := [(4, .ref q9), (0, .ref adB), (1, .int lp), (2, .int hev), (3, .int bav)]) hx hb dL_startRelay_14 hl (by decide) rfl (fun ls hl => ?_)
      refine lv_iconst (v := 2) hx hb dL_startRelay_16 (by decide) ?_
      refine W.widen (k := 3) (n := 18) (Nat.le_of_ble_eq_true rfl) (Nat.le_of_ble_eq_true rfl) ?_
      exact hh_reti hQ (((if_neg h1).trans (show (wr123 (f_X5_startRelay_x lmo hev bav)) = 2 from by rw [hc]; rfl)).symm) hx hb hr hlocks (by rw [show (f_L_startRelay_lmo lmo hev bav) = lmo from if_neg h1, show (f_L_startRelay_rpr lmo rpr hev bav) = rpr from if_neg h1, show (f_L_startRelay_rce lmo lou rce hev bav) = rce from if_neg h1, show (f_L_startRelay_rhe lmo rhe hev bav) = rhe from if_neg h1, show (f_L_startRelay_rba lmo rba hev bav) = rba from if_neg h1, show (f_L_startRelay_rup lmo rup hev bav) = rup from if_neg h1, show (f_L_startRelay_rsa lmo rsa hev bav) = rsa from if_neg h1, show (f_L_startRelay_rri lmo rri hev bav) = rri from if_neg h1]; exact hP) hK (by rw [show (f_L_startRelay_lmo lmo hev bav) = lmo from if_neg h1, show (f_L_startRelay_rpr lmo rpr hev bav) = rpr from if_neg h1, show (f_L_startRelay_rce lmo lou rce hev bav) = rce from if_neg h1, show (f_L_startRelay_rhe lmo rhe hev bav) = rhe from if_neg h1, show (f_L_startRelay_rba lmo rba hev bav) = rba from if_neg h1, show (f_L_startRelay_rup lmo rup hev bav) = rup from if_neg h1, show (f_L_startRelay_rsa lmo rsa hev bav) = rsa from if_neg h1, show (f_L_startRelay_rri lmo rri hev bav) = rri from if_neg h1]; exact hD) hS dL_startRelay_17
    · skip
      rw [hc] at hE
      subst hE
      refine vx_catch (name := exN 3) hown [⟨0, 7, 10, 13⟩, ⟨0, 7, 14, 15⟩] ⟨0, 7, 18, 25⟩ [] htab (List.forall_mem_cons.mpr ⟨Or.inr ⟨by decide, exN 1, hts _ wd_2_22, hG.2.2.1⟩, List.forall_mem_cons.mpr ⟨Or.inr ⟨by decide, exN 2, hts _ wd_2_23, hG.2.2.2⟩, fun _ h => nomatch h⟩⟩) rfl (by decide) (hts _ wd_2_132) (va_Nw.use rfl hG.1.2.1.2.2.2.2.2.2.1) hc1 hc2 hc3 ?_
      refine W.eq (g2 := F0 m 18 ls [.ref q9]) rfl ?_
      refine lv_astore (lv' := [(4, .ref q9), (0, .ref adB), (1, .int lp), (2, .int hev), (3, .int bav)]) hx hb dL_startRelay_18 hl (by decide) rfl (fun ls hl => ?_)
      refine lv_iconst (v := 3) hx hb dL_startRelay_20 (by decide) ?_
      refine W.widen (k := 3) (n := 18) (Nat.le_of_ble_eq_true rfl) (Nat.le_of_ble_eq_true rfl) ?_
      exact hh_reti hQ (((if_neg h1).trans (show (wr123 (f_X5_startRelay_x lmo hev bav)) = 3 from by rw [hc]; rfl)).symm) hx hb hr hlocks (by rw [show (f_L_startRelay_lmo lmo hev bav) = lmo from if_neg h1, show (f_L_startRelay_rpr lmo rpr hev bav) = rpr from if_neg h1, show (f_L_startRelay_rce lmo lou rce hev bav) = rce from if_neg h1, show (f_L_startRelay_rhe lmo rhe hev bav) = rhe from if_neg h1, show (f_L_startRelay_rba lmo rba hev bav) = rba from if_neg h1, show (f_L_startRelay_rup lmo rup hev bav) = rup from if_neg h1, show (f_L_startRelay_rsa lmo rsa hev bav) = rsa from if_neg h1, show (f_L_startRelay_rri lmo rri hev bav) = rri from if_neg h1]; exact hP) hK (by rw [show (f_L_startRelay_lmo lmo hev bav) = lmo from if_neg h1, show (f_L_startRelay_rpr lmo rpr hev bav) = rpr from if_neg h1, show (f_L_startRelay_rce lmo lou rce hev bav) = rce from if_neg h1, show (f_L_startRelay_rhe lmo rhe hev bav) = rhe from if_neg h1, show (f_L_startRelay_rba lmo rba hev bav) = rba from if_neg h1, show (f_L_startRelay_rup lmo rup hev bav) = rup from if_neg h1, show (f_L_startRelay_rsa lmo rsa hev bav) = rsa from if_neg h1, show (f_L_startRelay_rri lmo rri hev bav) = rri from if_neg h1]; exact hD) hS dL_startRelay_21
  · skip
    refine lv_goto (tgt := 22) hx hb dL_startRelay_7 (by decide) ?_
    refine lv_iconst (v := 0) hx hb dL_startRelay_22 (by decide) ?_
    exact hh_reti hQ ((if_pos h1).symm) hx hb hr hlocks (by rw [show (f_L_startRelay_lmo lmo hev bav) = (3 : Int32) from if_pos h1, show (f_L_startRelay_rpr lmo rpr hev bav) = (1 : Int32) from if_pos h1, show (f_L_startRelay_rce lmo lou rce hev bav) = lou from if_pos h1, show (f_L_startRelay_rhe lmo rhe hev bav) = hev from if_pos h1, show (f_L_startRelay_rba lmo rba hev bav) = bav from if_pos h1, show (f_L_startRelay_rup lmo rup hev bav) = (1 : Int32) from if_pos h1, show (f_L_startRelay_rsa lmo rsa hev bav) = (0 : Int32) from if_pos h1, show (f_L_startRelay_rri lmo rri hev bav) = (0 : Int32) from if_pos h1]; exact hP) hK (by rw [show (f_L_startRelay_lmo lmo hev bav) = (3 : Int32) from if_pos h1, show (f_L_startRelay_rpr lmo rpr hev bav) = (1 : Int32) from if_pos h1, show (f_L_startRelay_rce lmo lou rce hev bav) = lou from if_pos h1, show (f_L_startRelay_rhe lmo rhe hev bav) = hev from if_pos h1, show (f_L_startRelay_rba lmo rba hev bav) = bav from if_pos h1, show (f_L_startRelay_rup lmo rup hev bav) = (1 : Int32) from if_pos h1, show (f_L_startRelay_rsa lmo rsa hev bav) = (0 : Int32) from if_pos h1, show (f_L_startRelay_rri lmo rri hev bav) = (0 : Int32) from if_pos h1]; exact hD) hS dL_startRelay_23
set_option maxHeartbeats 4000000 in
set_option maxRecDepth 100000 in
theorem c_L_startRelay_o (l : Launch) (dC : Nat → ClassId) (dI : Nat → Nat → Nat) (cI cJ cZ cO : ClassId) (adB adA : Nat) (bs : Int32) (lf : Nat → Option Nat) (lp hev bav : Int32) (sz : Nat) (hfl : l.stackTraces = false) (hlo : ¬ lp < (0 : Int32) → ¬ lp < (3 : Int32)) : Met l yL_startRelay (Cond.codeWith yL_startRelay cL_startRelay 5 (some .int) [(0, 7, 10, 13), (0, 7, 14, 15), (0, 7, 18, 25)] :: wAll) ({ frames := 8, cells := 1, slots := 6, locals := 127 }) (va_Pc [.ref adB, .int lp, .int hev, .int bav] (gP (dC, dI) [zX5 adB adA bs, zAL cO adA 3 lf] (tyG cI cJ cZ cO) sz (gW (va_A [zX5 adB adA bs, zAL cO adA 3 lf] sz)))) (va_Qi (fun r (_ : Unit) => r = (wr123 1)) (fun _ t => gB (dC, dI) (va_A [zX5 adB adA bs, zAL cO adA 3 lf] sz) [zX5 adB adA bs, zAL cO adA 3 lf] (tyG cI cJ cZ cO) t) (va_A [zX5 adB adA bs, zAL cO adA 3 lf] sz)) 1 6 (va_A [zX5 adB adA bs, zAL cO adA 3 lf] sz) := by
  refine va_MetW (cc := cL_startRelay) (maxL := 5) (ret := (some .int)) (by decide) rfl ?_
  intro p e s m args below meth c s₁ B hml hv
  obtain ⟨rfl, hsz, hP, hK, hD0, hG⟩ := hv
  have hx := B.exec
  have hb := B.bytes
  have hr := B.returns
  have hts := ht_of B.pre
  have hown : s.vm.findClass RL = some m.cls := findClass_of_methodNamed B.named
  have hlocks := B.notSynchronized
  have htab := vx_table (x := yL_startRelay) B (hts _ wd_3_208)
  subst hsz
  have hD := hD0.self (sz := s.heap.size)
  generalize hAe : va_A [zX5 adB adA bs, zAL cO adA 3 lf] s.heap.size = A at hD hG ⊢
  have hA : ∀ q : Nat, s.heap.size ≤ q → A q := fun q h => by rw [← hAe]; exact Or.inr h
  have hS : va_S A s.heap s.heap [] := va_S.rf
  have hP : va_P (dC, dI) vwCl [zX5 adB adA bs, zAL cO adA 3 lf] s.heap := hP
  have hl := lv_entry ([.ref adB, .int lp, .int hev, .int bav]) (n := 5) (Nat.le_of_ble_eq_true rfl)
  rw [lg_entry_eq]
  generalize (lg_sl ([.ref adB, .int lp, .int hev, .int bav]) ++ List.replicate (5 - (lg_sl ([.ref adB, .int lp, .int hev, .int bav])).length) Slot.unset).toArray = ls at hl ⊢
  have hl : lv_has ls 5 [(0, .ref adB), (1, .int lp), (2, .int hev), (3, .int bav)] := hl
  refine hh_name (fun Q hQ => ?_)
  refine lv_aload_n hx hb dL_startRelay_0 rfl (lv_at hl 0 rfl) ?_
  refine lv_iload_n hx hb dL_startRelay_1 rfl (lv_at hl 1 rfl) ?_
  refine lv_iload_n hx hb dL_startRelay_2 rfl (lv_at hl 2 rfl) ?_
  refine lv_iload_n hx hb dL_startRelay_3 rfl (lv_at hl 3 rfl) ?_
  refine hh_xcallv (w2 := [zX5 adB adA bs, zAL cO adA 3 lf]) (vx_runV (As := [.int lp, .int hev, .int bav]) (rest := []) ⟨hx, hb, hml, hown, hts⟩ (c_X5_startRelay_o l dC dI cI cJ cZ cO adB adA bs lf lp hev bav _ hfl hlo) (cwV 3 hts (gd_V wd_3_209 wd_3_210 wd_3_211 wd_1_1 wd_3_212) rfl rfl rfl (by decide +kernel) ⟨Nat.le_of_ble_eq_true rfl, Nat.le_of_ble_eq_true rfl⟩) (hh_pV (ci := 5) (q := (RX5, TX5, 2)) (q0 := 0) rfl rfl (gT_c _) (gT_call hG.1 hS (va_free hD hS hA [0, 1] rfl)) hK hP hD [0, 1] rfl rfl) rfl rfl hl.1 rfl (lv_room (Nat.le_of_ble_eq_true rfl)) dL_startRelay_4 ⟨Nat.le_of_ble_eq_true rfl, Nat.le_of_ble_eq_true rfl⟩) hP hD hS hA [0, 1] [] [0, 1] rfl rfl rfl (by decide) rfl rfl rfl (fun E ce q9 H locs h1 hE hP hD hS hc1 hc2 hc3 => ?_) (fun H locs h1 hP hD hS => ?_)
  · skip
    have hc : 1 = 1 := rfl
    rw [hc] at hE
    subst hE
    refine vx_catch (name := exN 1) hown [] ⟨0, 7, 10, 13⟩ [⟨0, 7, 14, 15⟩, ⟨0, 7, 18, 25⟩] htab (fun _ h => nomatch h) rfl (by decide) (hts _ wd_2_22) (va_Nw.use rfl hG.1.2.1.2.2.2.2.1) hc1 hc2 hc3 ?_
    refine W.eq (g2 := F0 m 10 ls [.ref q9]) rfl ?_
    refine lv_astore (lv' := [(4, .ref q9), (0, .ref adB), (1, .int lp), (2, .int hev), (3, .int bav)]) hx hb dL_startRelay_10 hl (by decide) rfl (fun ls hl => ?_)
    refine lv_iconst (v := 1) hx hb dL_startRelay_12 (by decide) ?_
    refine W.widen (k := 1) (n := 6) (Nat.le_of_ble_eq_true rfl) (Nat.le_of_ble_eq_true rfl) ?_
    exact hh_reti hQ (((show (wr123 1) = 1 from by rw [hc]; rfl)).symm) hx hb hr hlocks hP hK hD hS dL_startRelay_13
  · skip
    exact absurd h1 (by decide)
def f_L_experiment_uo (rpr : Int32) (uo : Nat → Int64) : Nat → Int64 := (vp_updL uo (0 : Int32).toNatClampNeg (rpr.toInt64))
set_option maxHeartbeats 4000000 in
set_option maxRecDepth 100000 in
theorem c_L_experiment (l : Launch) (dC : Nat → ClassId) (dI : Nat → Nat → Nat) (cI cJ cZ cO : ClassId) (adB adA : Nat) (bs : Int32) (lf : Nat → Option Nat) (adL adc adp ads adr : Nat) (lmo : Int32) (lha : Int64) (lfo lma lst : Int32) (lou : Int64) (rpr rpe : Int32) (rsw rce : Int64) (rhe rba rup rsa rri rse : Int32) (rgr rle : Int64) (adU : Nat) (uo : Nat → Int64) (lp : Int32) (sz : Nat) (hfl : l.stackTraces = false) (hl0 : ¬ lp < (0 : Int32)) (hl3 : lp < (3 : Int32)) (hlf : lf lp.toNatClampNeg = some adL) : Met l yL_experiment (Cond.codeWith yL_experiment cL_experiment 4 (some .int) [(0, 9, 12, 13)] :: wAll) ({ frames := 2, cells := 0, slots := 0, locals := 42 }) (va_Pc [.ref adB, .int lp, .ref adU] (gP (dC, dI) [zX5 adB adA bs, zAL cO adA 3 lf, zX1 adL adc adp ads adr lmo lha lfo lma lst lou, zX3 adr rpr rpe rsw rce rhe rba rup rsa rri rse rgr rle, zAJ cJ adU 1 uo] (tyG cI cJ cZ cO) sz (gW (va_A [zX5 adB adA bs, zAL cO adA 3 lf, zX1 adL adc adp ads adr lmo lha lfo lma lst lou, zX3 adr rpr rpe rsw rce rhe rba rup rsa rri rse rgr rle, zAJ cJ adU 1 uo] sz)))) (va_Qi (fun r (_ : Unit) => r = (0 : Int32)) (fun _ t => gB (dC, dI) (va_A [zX5 adB adA bs, zAL cO adA 3 lf, zX1 adL adc adp ads adr lmo lha lfo lma lst lou, zX3 adr rpr rpe rsw rce rhe rba rup rsa rri rse rgr rle, zAJ cJ adU 1 uo] sz) [zX5 adB adA bs, zAL cO adA 3 lf, zX1 adL adc adp ads adr lmo lha lfo lma lst lou, zX3 adr rpr rpe rsw rce rhe rba rup rsa rri rse rgr rle, zAJ cJ adU 1 (f_L_experiment_uo rpr uo)] (tyG cI cJ cZ cO) t) (va_A [zX5 adB adA bs, zAL cO adA 3 lf, zX1 adL adc adp ads adr lmo lha lfo lma lst lou, zX3 adr rpr rpe rsw rce rhe rba rup rsa rri rse rgr rle, zAJ cJ adU 1 uo] sz)) 0 0 (va_A [zX5 adB adA bs, zAL cO adA 3 lf, zX1 adL adc adp ads adr lmo lha lfo lma lst lou, zX3 adr rpr rpe rsw rce rhe rba rup rsa rri rse rgr rle, zAJ cJ adU 1 uo] sz) := by
  refine va_MetW (cc := cL_experiment) (maxL := 4) (ret := (some .int)) (by decide) rfl ?_
  intro p e s m args below meth c s₁ B hml hv
  obtain ⟨rfl, hsz, hP, hK, hD0, hG⟩ := hv
  have hx := B.exec
  have hb := B.bytes
  have hr := B.returns
  have hts := ht_of B.pre
  have hown : s.vm.findClass RL = some m.cls := findClass_of_methodNamed B.named
  have hlocks := B.notSynchronized
  have htab := vx_table (x := yL_experiment) B (hts _ wd_3_220)
  subst hsz
  have hD := hD0.self (sz := s.heap.size)
  generalize hAe : va_A [zX5 adB adA bs, zAL cO adA 3 lf, zX1 adL adc adp ads adr lmo lha lfo lma lst lou, zX3 adr rpr rpe rsw rce rhe rba rup rsa rri rse rgr rle, zAJ cJ adU 1 uo] s.heap.size = A at hD hG ⊢
  have hA : ∀ q : Nat, s.heap.size ≤ q → A q := fun q h => by rw [← hAe]; exact Or.inr h
  have hS : va_S A s.heap s.heap [] := va_S.rf
  have hP : va_P (dC, dI) vwCl [zX5 adB adA bs, zAL cO adA 3 lf, zX1 adL adc adp ads adr lmo lha lfo lma lst lou, zX3 adr rpr rpe rsw rce rhe rba rup rsa rri rse rgr rle, zAJ cJ adU 1 uo] s.heap := hP
  have hl := lv_entry ([.ref adB, .int lp, .ref adU]) (n := 4) (Nat.le_of_ble_eq_true rfl)
  rw [lg_entry_eq]
  generalize (lg_sl ([.ref adB, .int lp, .ref adU]) ++ List.replicate (4 - (lg_sl ([.ref adB, .int lp, .ref adU])).length) Slot.unset).toArray = ls at hl ⊢
  have hl : lv_has ls 4 [(0, .ref adB), (1, .int lp), (2, .ref adU)] := hl
  refine hh_name (fun Q hQ => ?_)
  refine lv_aload_n hx hb dL_experiment_0 rfl (lv_at hl 2 rfl) ?_
  refine lv_iconst (v := 0) hx hb dL_experiment_1 (by decide) ?_
  refine lv_aload_n hx hb dL_experiment_2 rfl (lv_at hl 0 rfl) ?_
  refine lv_iload_n hx hb dL_experiment_3 rfl (lv_at hl 1 rfl) ?_
  refine hh_calli (w2 := [zX5 adB adA bs, zAL cO adA 3 lf, zX1 adL adc adp ads adr lmo lha lfo lma lst lou, zX3 adr rpr rpe rsw rce rhe rba rup rsa rri rse rgr rle, zAJ cJ adU 1 uo]) (va_runV (As := [.int lp]) (rest := [.int (0 : Int32), .ref adU]) ⟨hx, hb, hml, hown, hts⟩ (c_X5_experiment l dC dI cI cJ cZ cO adB adA bs lf adL adc adp ads adr lmo lha lfo lma lst lou rpr rpe rsw rce rhe rba rup rsa rri rse rgr rle lp _ hl0 hl3 hlf) (cwV 1 hts (gd_V wd_3_221 wd_3_222 wd_3_223 wd_1_1 wd_3_224) rfl rfl rfl (by decide +kernel) ⟨Nat.le_of_ble_eq_true rfl, Nat.le_of_ble_eq_true rfl⟩) (hh_pV (ci := 5) (q := (RX5, TX5, 2)) (q0 := 0) rfl rfl gN_c (fun U _ hW => gN_w hW hG.1.1) hK hP hD [0, 1, 2, 3] rfl rfl) rfl rfl hl.1 rfl (lv_room (Nat.le_of_ble_eq_true rfl)) dL_experiment_4 ⟨Nat.le_of_ble_eq_true rfl, Nat.le_of_ble_eq_true rfl⟩) hP hD hS hA [0, 1, 2, 3] [4] [1, 2, 3, 4, 0] rfl rfl rfl (by decide) rfl rfl (fun H locs hP hD hS => ?_)
  refine lv_i2l hx hb dL_experiment_7 rfl ?_
  refine va_last hx hb hK hP hD hS 4 1 rfl rfl (i := (0 : Int32)) (ix_d (by decide)) dL_experiment_8 (fun H locs hP hD hS => ?_)
  have hP : va_P (dC, dI) vwCl [zX5 adB adA bs, zAL cO adA 3 lf, zX1 adL adc adp ads adr lmo lha lfo lma lst lou, zX3 adr rpr rpe rsw rce rhe rba rup rsa rri rse rgr rle, zAJ cJ adU 1 (vp_updL uo (0 : Int32).toNatClampNeg (rpr.toInt64))] H := hP
  have hD : va_D A [zX5 adB adA bs, zAL cO adA 3 lf, zX1 adL adc adp ads adr lmo lha lfo lma lst lou, zX3 adr rpr rpe rsw rce rhe rba rup rsa rri rse rgr rle, zAJ cJ adU 1 (vp_updL uo (0 : Int32).toNatClampNeg (rpr.toInt64))] := hD
  refine lv_goto (tgt := 15) hx hb dL_experiment_9 (by decide) ?_
  refine lv_iconst (v := 0) hx hb dL_experiment_15 (by decide) ?_
  exact hh_reti hQ (rfl) hx hb hr hlocks hP hK hD hS dL_experiment_16
set_option maxHeartbeats 4000000 in
set_option maxRecDepth 100000 in
theorem c_L_experiment_o (l : Launch) (dC : Nat → ClassId) (dI : Nat → Nat → Nat) (cI cJ cZ cO : ClassId) (adB adA : Nat) (bs : Int32) (lf : Nat → Option Nat) (adU : Nat) (uo : Nat → Int64) (lp : Int32) (sz : Nat) (hfl : l.stackTraces = false) (hlo : ¬ lp < (0 : Int32) → ¬ lp < (3 : Int32)) : Met l yL_experiment (Cond.codeWith yL_experiment cL_experiment 4 (some .int) [(0, 9, 12, 13)] :: wAll) ({ frames := 8, cells := 1, slots := 6, locals := 124 }) (va_Pc [.ref adB, .int lp, .ref adU] (gP (dC, dI) [zX5 adB adA bs, zAL cO adA 3 lf, zAJ cJ adU 1 uo] (tyG cI cJ cZ cO) sz (gW (va_A [zX5 adB adA bs, zAL cO adA 3 lf, zAJ cJ adU 1 uo] sz)))) (va_Qi (fun r (_ : Unit) => r = (wr1 1)) (fun _ t => gB (dC, dI) (va_A [zX5 adB adA bs, zAL cO adA 3 lf, zAJ cJ adU 1 uo] sz) [zX5 adB adA bs, zAL cO adA 3 lf, zAJ cJ adU 1 uo] (tyG cI cJ cZ cO) t) (va_A [zX5 adB adA bs, zAL cO adA 3 lf, zAJ cJ adU 1 uo] sz)) 1 6 (va_A [zX5 adB adA bs, zAL cO adA 3 lf, zAJ cJ adU 1 uo] sz) := by
  refine va_MetW (cc := cL_experiment) (maxL := 4) (ret := (some .int)) (by decide) rfl ?_
  intro p e s m args below meth c s₁ B hml hv
  obtain ⟨rfl, hsz, hP, hK, hD0, hG⟩ := hv
  have hx := B.exec
  have hb := B.bytes
  have hr := B.returns
  have hts := ht_of B.pre
  have hown : s.vm.findClass RL = some m.cls := findClass_of_methodNamed B.named
  have hlocks := B.notSynchronized
  have htab := vx_table (x := yL_experiment) B (hts _ wd_3_220)
  subst hsz
  have hD := hD0.self (sz := s.heap.size)
  generalize hAe : va_A [zX5 adB adA bs, zAL cO adA 3 lf, zAJ cJ adU 1 uo] s.heap.size = A at hD hG ⊢
  have hA : ∀ q : Nat, s.heap.size ≤ q → A q := fun q h => by rw [← hAe]; exact Or.inr h
  have hS : va_S A s.heap s.heap [] := va_S.rf
  have hP : va_P (dC, dI) vwCl [zX5 adB adA bs, zAL cO adA 3 lf, zAJ cJ adU 1 uo] s.heap := hP
  have hl := lv_entry ([.ref adB, .int lp, .ref adU]) (n := 4) (Nat.le_of_ble_eq_true rfl)
  rw [lg_entry_eq]
  generalize (lg_sl ([.ref adB, .int lp, .ref adU]) ++ List.replicate (4 - (lg_sl ([.ref adB, .int lp, .ref adU])).length) Slot.unset).toArray = ls at hl ⊢
  have hl : lv_has ls 4 [(0, .ref adB), (1, .int lp), (2, .ref adU)] := hl
  refine hh_name (fun Q hQ => ?_)
  refine lv_aload_n hx hb dL_experiment_0 rfl (lv_at hl 2 rfl) ?_
  refine lv_iconst (v := 0) hx hb dL_experiment_1 (by decide) ?_
  refine lv_aload_n hx hb dL_experiment_2 rfl (lv_at hl 0 rfl) ?_
  refine lv_iload_n hx hb dL_experiment_3 rfl (lv_at hl 1 rfl) ?_
  refine hh_xcalli (w2 := [zX5 adB adA bs, zAL cO adA 3 lf, zAJ cJ adU 1 uo]) (vx_runV (As := [.int lp]) (rest := [.int (0 : Int32), .ref adU]) ⟨hx, hb, hml, hown, hts⟩ (c_X5_experiment_o l dC dI cI cJ cZ cO adB adA bs lf lp _ hfl hlo) (cwV 1 hts (gd_V wd_3_221 wd_3_222 wd_3_223 wd_1_1 wd_3_224) rfl rfl rfl (by decide +kernel) ⟨Nat.le_of_ble_eq_true rfl, Nat.le_of_ble_eq_true rfl⟩) (hh_pV (ci := 5) (q := (RX5, TX5, 2)) (q0 := 0) rfl rfl (gT_c _) (gT_call hG.1 hS (va_free hD hS hA [0, 1] rfl)) hK hP hD [0, 1] rfl rfl) rfl rfl hl.1 rfl (lv_room (Nat.le_of_ble_eq_true rfl)) dL_experiment_4 ⟨Nat.le_of_ble_eq_true rfl, Nat.le_of_ble_eq_true rfl⟩) hP hD hS hA [0, 1] [2] [1, 2, 0] rfl rfl rfl (by decide) rfl rfl rfl (fun E ce q9 H locs h1 hE hP hD hS hc1 hc2 hc3 => ?_) (fun H locs h1 hP hD hS => ?_)
  · skip
    have hc : 1 = 1 := rfl
    rw [hc] at hE
    subst hE
    refine vx_catch (name := exN 1) hown [] ⟨0, 9, 12, 13⟩ [] htab (fun _ h => nomatch h) rfl (by decide) (hts _ wd_2_22) (va_Nw.use rfl hG.1.2.1.2.2.2.2.1) hc1 hc2 hc3 ?_
    refine W.eq (g2 := F0 m 12 ls [.ref q9]) rfl ?_
    refine lv_astore_n (lv' := [(3, .ref q9), (0, .ref adB), (1, .int lp), (2, .ref adU)]) hx hb dL_experiment_12 rfl hl (by decide) rfl (fun ls hl => ?_)
    refine lv_iconst (v := 1) hx hb dL_experiment_13 (by decide) ?_
    refine W.widen (k := 1) (n := 6) (Nat.le_of_ble_eq_true rfl) (Nat.le_of_ble_eq_true rfl) ?_
    exact hh_reti hQ (((show (wr1 1) = 1 from by rw [hc]; rfl)).symm) hx hb hr hlocks hP hK hD hS dL_experiment_14
  · skip
    exact absurd h1 (by decide)
theorem bd_period (rpr : Int32) : f_X5_period_x rpr = 0 ∨ f_X5_period_x rpr = 3 := by
  have h0 := bd_requireState (f_X5_period_j1_1 rpr)
  unfold f_X5_period_x; repeat' split
  all_goals omega
def f_L_period_uo (rpr rpe : Int32) (uo : Nat → Int64) : Nat → Int64 := if (f_X5_period_x rpr) = 0 then (vp_updL uo (0 : Int32).toNatClampNeg (rpe.toInt64)) else uo
def f_L_period_r (rpr : Int32) : Int32 := if (f_X5_period_x rpr) = 0 then (0 : Int32) else (wr13 (f_X5_period_x rpr))
set_option maxHeartbeats 4000000 in
set_option maxRecDepth 100000 in
theorem c_L_period (l : Launch) (dC : Nat → ClassId) (dI : Nat → Nat → Nat) (cI cJ cZ cO : ClassId) (adB adA : Nat) (bs : Int32) (lf : Nat → Option Nat) (adL adc adp ads adr : Nat) (lmo : Int32) (lha : Int64) (lfo lma lst : Int32) (lou : Int64) (rpr rpe : Int32) (rsw rce : Int64) (rhe rba rup rsa rri rse : Int32) (rgr rle : Int64) (adU : Nat) (uo : Nat → Int64) (lp : Int32) (sz : Nat) (hfl : l.stackTraces = false) (hl0 : ¬ lp < (0 : Int32)) (hl3 : lp < (3 : Int32)) (hlf : lf lp.toNatClampNeg = some adL) : Met l yL_period (Cond.codeWith yL_period cL_period 4 (some .int) [(0, 9, 12, 13), (0, 9, 15, 25)] :: wAll) ({ frames := 8, cells := 1, slots := 6, locals := 124 }) (va_Pc [.ref adB, .int lp, .ref adU] (gP (dC, dI) [zX5 adB adA bs, zAL cO adA 3 lf, zX1 adL adc adp ads adr lmo lha lfo lma lst lou, zX3 adr rpr rpe rsw rce rhe rba rup rsa rri rse rgr rle, zAJ cJ adU 1 uo] (tyG cI cJ cZ cO) sz (gW (va_A [zX5 adB adA bs, zAL cO adA 3 lf, zX1 adL adc adp ads adr lmo lha lfo lma lst lou, zX3 adr rpr rpe rsw rce rhe rba rup rsa rri rse rgr rle, zAJ cJ adU 1 uo] sz)))) (va_Qi (fun r (_ : Unit) => r = (f_L_period_r rpr)) (fun _ t => gB (dC, dI) (va_A [zX5 adB adA bs, zAL cO adA 3 lf, zX1 adL adc adp ads adr lmo lha lfo lma lst lou, zX3 adr rpr rpe rsw rce rhe rba rup rsa rri rse rgr rle, zAJ cJ adU 1 uo] sz) [zX5 adB adA bs, zAL cO adA 3 lf, zX1 adL adc adp ads adr lmo lha lfo lma lst lou, zX3 adr rpr rpe rsw rce rhe rba rup rsa rri rse rgr rle, zAJ cJ adU 1 (f_L_period_uo rpr rpe uo)] (tyG cI cJ cZ cO) t) (va_A [zX5 adB adA bs, zAL cO adA 3 lf, zX1 adL adc adp ads adr lmo lha lfo lma lst lou, zX3 adr rpr rpe rsw rce rhe rba rup rsa rri rse rgr rle, zAJ cJ adU 1 uo] sz)) 1 6 (va_A [zX5 adB adA bs, zAL cO adA 3 lf, zX1 adL adc adp ads adr lmo lha lfo lma lst lou, zX3 adr rpr rpe rsw rce rhe rba rup rsa rri rse rgr rle, zAJ cJ adU 1 uo] sz) := by
  refine va_MetW (cc := cL_period) (maxL := 4) (ret := (some .int)) (by decide) rfl ?_
  intro p e s m args below meth c s₁ B hml hv
  obtain ⟨rfl, hsz, hP, hK, hD0, hG⟩ := hv
  have hx := B.exec
  have hb := B.bytes
  have hr := B.returns
  have hts := ht_of B.pre
  have hown : s.vm.findClass RL = some m.cls := findClass_of_methodNamed B.named
  have hlocks := B.notSynchronized
  have htab := vx_table (x := yL_period) B (hts _ wd_3_227)
  subst hsz
  have hD := hD0.self (sz := s.heap.size)
  generalize hAe : va_A [zX5 adB adA bs, zAL cO adA 3 lf, zX1 adL adc adp ads adr lmo lha lfo lma lst lou, zX3 adr rpr rpe rsw rce rhe rba rup rsa rri rse rgr rle, zAJ cJ adU 1 uo] s.heap.size = A at hD hG ⊢
  have hA : ∀ q : Nat, s.heap.size ≤ q → A q := fun q h => by rw [← hAe]; exact Or.inr h
  have hS : va_S A s.heap s.heap [] := va_S.rf
  have hP : va_P (dC, dI) vwCl [zX5 adB adA bs, zAL cO adA 3 lf, zX1 adL adc adp ads adr lmo lha lfo lma lst lou, zX3 adr rpr rpe rsw rce rhe rba rup rsa rri rse rgr rle, zAJ cJ adU 1 uo] s.heap := hP
  have hl := lv_entry ([.ref adB, .int lp, .ref adU]) (n := 4) (Nat.le_of_ble_eq_true rfl)
  rw [lg_entry_eq]
  generalize (lg_sl ([.ref adB, .int lp, .ref adU]) ++ List.replicate (4 - (lg_sl ([.ref adB, .int lp, .ref adU])).length) Slot.unset).toArray = ls at hl ⊢
  have hl : lv_has ls 4 [(0, .ref adB), (1, .int lp), (2, .ref adU)] := hl
  refine hh_name (fun Q hQ => ?_)
  refine lv_aload_n hx hb dL_period_0 rfl (lv_at hl 2 rfl) ?_
  refine lv_iconst (v := 0) hx hb dL_period_1 (by decide) ?_
  refine lv_aload_n hx hb dL_period_2 rfl (lv_at hl 0 rfl) ?_
  refine lv_iload_n hx hb dL_period_3 rfl (lv_at hl 1 rfl) ?_
  refine hh_xcalli (w2 := [zX5 adB adA bs, zAL cO adA 3 lf, zX1 adL adc adp ads adr lmo lha lfo lma lst lou, zX3 adr rpr rpe rsw rce rhe rba rup rsa rri rse rgr rle, zAJ cJ adU 1 uo]) (vx_runV (As := [.int lp]) (rest := [.int (0 : Int32), .ref adU]) ⟨hx, hb, hml, hown, hts⟩ (c_X5_period l dC dI cI cJ cZ cO adB adA bs lf adL adc adp ads adr lmo lha lfo lma lst lou rpr rpe rsw rce rhe rba rup rsa rri rse rgr rle lp _ hfl hl0 hl3 hlf) (cwV 1 hts (gd_V wd_3_228 wd_3_229 wd_3_230 wd_1_1 wd_3_231) rfl rfl rfl (by decide +kernel) ⟨Nat.le_of_ble_eq_true rfl, Nat.le_of_ble_eq_true rfl⟩) (hh_pV (ci := 5) (q := (RX5, TX5, 2)) (q0 := 0) rfl rfl (gT_c _) (gT_call hG.1 hS (va_free hD hS hA [0, 1, 2, 3] rfl)) hK hP hD [0, 1, 2, 3] rfl rfl) rfl rfl hl.1 rfl (lv_room (Nat.le_of_ble_eq_true rfl)) dL_period_4 ⟨Nat.le_of_ble_eq_true rfl, Nat.le_of_ble_eq_true rfl⟩) hP hD hS hA [0, 1, 2, 3] [4] [1, 2, 3, 4, 0] rfl rfl rfl (by decide) rfl rfl rfl (fun E ce q9 H locs h1 hE hP hD hS hc1 hc2 hc3 => ?_) (fun H locs h1 hP hD hS => ?_)
  · skip
    rcases bd_period rpr with hc | hc
    · exact absurd hc h1
    · skip
      rw [hc] at hE
      subst hE
      refine vx_catch (name := exN 3) hown [⟨0, 9, 12, 13⟩] ⟨0, 9, 15, 25⟩ [] htab (List.forall_mem_cons.mpr ⟨Or.inr ⟨by decide, exN 1, hts _ wd_2_22, hG.2.2.1⟩, fun _ h => nomatch h⟩) rfl (by decide) (hts _ wd_2_132) (va_Nw.use rfl hG.1.2.1.2.2.2.2.2.2.1) hc1 hc2 hc3 ?_
      refine W.eq (g2 := F0 m 15 ls [.ref q9]) rfl ?_
      refine lv_astore_n (lv' := [(3, .ref q9), (0, .ref adB), (1, .int lp), (2, .ref adU)]) hx hb dL_period_15 rfl hl (by decide) rfl (fun ls hl => ?_)
      refine lv_iconst (v := 2) hx hb dL_period_16 (by decide) ?_
      refine W.widen (k := 1) (n := 6) (Nat.le_of_ble_eq_true rfl) (Nat.le_of_ble_eq_true rfl) ?_
      exact hh_reti hQ (((if_neg h1).trans (show (wr13 (f_X5_period_x rpr)) = 2 from by rw [hc]; rfl)).symm) hx hb hr hlocks (by rw [show (f_L_period_uo rpr rpe uo) = uo from if_neg h1]; exact hP) hK (by rw [show (f_L_period_uo rpr rpe uo) = uo from if_neg h1]; exact hD) hS dL_period_17
  · skip
    refine lv_i2l hx hb dL_period_7 rfl ?_
    refine va_last hx hb hK hP hD hS 4 1 rfl rfl (i := (0 : Int32)) (ix_d (by decide)) dL_period_8 (fun H locs hP hD hS => ?_)
    have hP : va_P (dC, dI) vwCl [zX5 adB adA bs, zAL cO adA 3 lf, zX1 adL adc adp ads adr lmo lha lfo lma lst lou, zX3 adr rpr rpe rsw rce rhe rba rup rsa rri rse rgr rle, zAJ cJ adU 1 (vp_updL uo (0 : Int32).toNatClampNeg (rpe.toInt64))] H := hP
    have hD : va_D A [zX5 adB adA bs, zAL cO adA 3 lf, zX1 adL adc adp ads adr lmo lha lfo lma lst lou, zX3 adr rpr rpe rsw rce rhe rba rup rsa rri rse rgr rle, zAJ cJ adU 1 (vp_updL uo (0 : Int32).toNatClampNeg (rpe.toInt64))] := hD
    refine lv_goto (tgt := 18) hx hb dL_period_9 (by decide) ?_
    refine lv_iconst (v := 0) hx hb dL_period_18 (by decide) ?_
    exact hh_reti hQ ((if_pos h1).symm) hx hb hr hlocks (by rw [show (f_L_period_uo rpr rpe uo) = (vp_updL uo (0 : Int32).toNatClampNeg (rpe.toInt64)) from if_pos h1]; exact hP) hK (by rw [show (f_L_period_uo rpr rpe uo) = (vp_updL uo (0 : Int32).toNatClampNeg (rpe.toInt64)) from if_pos h1]; exact hD) hS dL_period_19
set_option maxHeartbeats 4000000 in
set_option maxRecDepth 100000 in
theorem c_L_period_o (l : Launch) (dC : Nat → ClassId) (dI : Nat → Nat → Nat) (cI cJ cZ cO : ClassId) (adB adA : Nat) (bs : Int32) (lf : Nat → Option Nat) (adU : Nat) (uo : Nat → Int64) (lp : Int32) (sz : Nat) (hfl : l.stackTraces = false) (hlo : ¬ lp < (0 : Int32) → ¬ lp < (3 : Int32)) : Met l yL_period (Cond.codeWith yL_period cL_period 4 (some .int) [(0, 9, 12, 13), (0, 9, 15, 25)] :: wAll) ({ frames := 8, cells := 1, slots := 6, locals := 125 }) (va_Pc [.ref adB, .int lp, .ref adU] (gP (dC, dI) [zX5 adB adA bs, zAL cO adA 3 lf, zAJ cJ adU 1 uo] (tyG cI cJ cZ cO) sz (gW (va_A [zX5 adB adA bs, zAL cO adA 3 lf, zAJ cJ adU 1 uo] sz)))) (va_Qi (fun r (_ : Unit) => r = (wr13 1)) (fun _ t => gB (dC, dI) (va_A [zX5 adB adA bs, zAL cO adA 3 lf, zAJ cJ adU 1 uo] sz) [zX5 adB adA bs, zAL cO adA 3 lf, zAJ cJ adU 1 uo] (tyG cI cJ cZ cO) t) (va_A [zX5 adB adA bs, zAL cO adA 3 lf, zAJ cJ adU 1 uo] sz)) 1 6 (va_A [zX5 adB adA bs, zAL cO adA 3 lf, zAJ cJ adU 1 uo] sz) := by
  refine va_MetW (cc := cL_period) (maxL := 4) (ret := (some .int)) (by decide) rfl ?_
  intro p e s m args below meth c s₁ B hml hv
  obtain ⟨rfl, hsz, hP, hK, hD0, hG⟩ := hv
  have hx := B.exec
  have hb := B.bytes
  have hr := B.returns
  have hts := ht_of B.pre
  have hown : s.vm.findClass RL = some m.cls := findClass_of_methodNamed B.named
  have hlocks := B.notSynchronized
  have htab := vx_table (x := yL_period) B (hts _ wd_3_227)
  subst hsz
  have hD := hD0.self (sz := s.heap.size)
  generalize hAe : va_A [zX5 adB adA bs, zAL cO adA 3 lf, zAJ cJ adU 1 uo] s.heap.size = A at hD hG ⊢
  have hA : ∀ q : Nat, s.heap.size ≤ q → A q := fun q h => by rw [← hAe]; exact Or.inr h
  have hS : va_S A s.heap s.heap [] := va_S.rf
  have hP : va_P (dC, dI) vwCl [zX5 adB adA bs, zAL cO adA 3 lf, zAJ cJ adU 1 uo] s.heap := hP
  have hl := lv_entry ([.ref adB, .int lp, .ref adU]) (n := 4) (Nat.le_of_ble_eq_true rfl)
  rw [lg_entry_eq]
  generalize (lg_sl ([.ref adB, .int lp, .ref adU]) ++ List.replicate (4 - (lg_sl ([.ref adB, .int lp, .ref adU])).length) Slot.unset).toArray = ls at hl ⊢
  have hl : lv_has ls 4 [(0, .ref adB), (1, .int lp), (2, .ref adU)] := hl
  refine hh_name (fun Q hQ => ?_)
  refine lv_aload_n hx hb dL_period_0 rfl (lv_at hl 2 rfl) ?_
  refine lv_iconst (v := 0) hx hb dL_period_1 (by decide) ?_
  refine lv_aload_n hx hb dL_period_2 rfl (lv_at hl 0 rfl) ?_
  refine lv_iload_n hx hb dL_period_3 rfl (lv_at hl 1 rfl) ?_
  refine hh_xcalli (w2 := [zX5 adB adA bs, zAL cO adA 3 lf, zAJ cJ adU 1 uo]) (vx_runV (As := [.int lp]) (rest := [.int (0 : Int32), .ref adU]) ⟨hx, hb, hml, hown, hts⟩ (c_X5_period_o l dC dI cI cJ cZ cO adB adA bs lf lp _ hfl hlo) (cwV 1 hts (gd_V wd_3_228 wd_3_229 wd_3_230 wd_1_1 wd_3_231) rfl rfl rfl (by decide +kernel) ⟨Nat.le_of_ble_eq_true rfl, Nat.le_of_ble_eq_true rfl⟩) (hh_pV (ci := 5) (q := (RX5, TX5, 2)) (q0 := 0) rfl rfl (gT_c _) (gT_call hG.1 hS (va_free hD hS hA [0, 1] rfl)) hK hP hD [0, 1] rfl rfl) rfl rfl hl.1 rfl (lv_room (Nat.le_of_ble_eq_true rfl)) dL_period_4 ⟨Nat.le_of_ble_eq_true rfl, Nat.le_of_ble_eq_true rfl⟩) hP hD hS hA [0, 1] [2] [1, 2, 0] rfl rfl rfl (by decide) rfl rfl rfl (fun E ce q9 H locs h1 hE hP hD hS hc1 hc2 hc3 => ?_) (fun H locs h1 hP hD hS => ?_)
  · skip
    have hc : 1 = 1 := rfl
    rw [hc] at hE
    subst hE
    refine vx_catch (name := exN 1) hown [] ⟨0, 9, 12, 13⟩ [⟨0, 9, 15, 25⟩] htab (fun _ h => nomatch h) rfl (by decide) (hts _ wd_2_22) (va_Nw.use rfl hG.1.2.1.2.2.2.2.1) hc1 hc2 hc3 ?_
    refine W.eq (g2 := F0 m 12 ls [.ref q9]) rfl ?_
    refine lv_astore_n (lv' := [(3, .ref q9), (0, .ref adB), (1, .int lp), (2, .ref adU)]) hx hb dL_period_12 rfl hl (by decide) rfl (fun ls hl => ?_)
    refine lv_iconst (v := 1) hx hb dL_period_13 (by decide) ?_
    refine W.widen (k := 1) (n := 6) (Nat.le_of_ble_eq_true rfl) (Nat.le_of_ble_eq_true rfl) ?_
    exact hh_reti hQ (((show (wr13 1) = 1 from by rw [hc]; rfl)).symm) hx hb hr hlocks hP hK hD hS dL_period_14
  · skip
    exact absurd h1 (by decide)
theorem bd_swing (rpr : Int32) : f_X5_swing_x rpr = 0 ∨ f_X5_swing_x rpr = 3 := by
  have h0 := bd_requireState (f_X5_swing_j1_1 rpr)
  unfold f_X5_swing_x; repeat' split
  all_goals omega
def f_L_swing_uo (rpr : Int32) (rsw : Int64) (uo : Nat → Int64) : Nat → Int64 := if (f_X5_swing_x rpr) = 0 then (vp_updL uo (0 : Int32).toNatClampNeg rsw) else uo
def f_L_swing_r (rpr : Int32) : Int32 := if (f_X5_swing_x rpr) = 0 then (0 : Int32) else (wr13 (f_X5_swing_x rpr))
set_option maxHeartbeats 4000000 in
set_option maxRecDepth 100000 in
theorem c_L_swing (l : Launch) (dC : Nat → ClassId) (dI : Nat → Nat → Nat) (cI cJ cZ cO : ClassId) (adB adA : Nat) (bs : Int32) (lf : Nat → Option Nat) (adL adc adp ads adr : Nat) (lmo : Int32) (lha : Int64) (lfo lma lst : Int32) (lou : Int64) (rpr rpe : Int32) (rsw rce : Int64) (rhe rba rup rsa rri rse : Int32) (rgr rle : Int64) (adU : Nat) (uo : Nat → Int64) (lp : Int32) (sz : Nat) (hfl : l.stackTraces = false) (hl0 : ¬ lp < (0 : Int32)) (hl3 : lp < (3 : Int32)) (hlf : lf lp.toNatClampNeg = some adL) : Met l yL_swing (Cond.codeWith yL_swing cL_swing 4 (some .int) [(0, 8, 11, 13), (0, 8, 14, 25)] :: wAll) ({ frames := 8, cells := 1, slots := 6, locals := 124 }) (va_Pc [.ref adB, .int lp, .ref adU] (gP (dC, dI) [zX5 adB adA bs, zAL cO adA 3 lf, zX1 adL adc adp ads adr lmo lha lfo lma lst lou, zX3 adr rpr rpe rsw rce rhe rba rup rsa rri rse rgr rle, zAJ cJ adU 1 uo] (tyG cI cJ cZ cO) sz (gW (va_A [zX5 adB adA bs, zAL cO adA 3 lf, zX1 adL adc adp ads adr lmo lha lfo lma lst lou, zX3 adr rpr rpe rsw rce rhe rba rup rsa rri rse rgr rle, zAJ cJ adU 1 uo] sz)))) (va_Qi (fun r (_ : Unit) => r = (f_L_swing_r rpr)) (fun _ t => gB (dC, dI) (va_A [zX5 adB adA bs, zAL cO adA 3 lf, zX1 adL adc adp ads adr lmo lha lfo lma lst lou, zX3 adr rpr rpe rsw rce rhe rba rup rsa rri rse rgr rle, zAJ cJ adU 1 uo] sz) [zX5 adB adA bs, zAL cO adA 3 lf, zX1 adL adc adp ads adr lmo lha lfo lma lst lou, zX3 adr rpr rpe rsw rce rhe rba rup rsa rri rse rgr rle, zAJ cJ adU 1 (f_L_swing_uo rpr rsw uo)] (tyG cI cJ cZ cO) t) (va_A [zX5 adB adA bs, zAL cO adA 3 lf, zX1 adL adc adp ads adr lmo lha lfo lma lst lou, zX3 adr rpr rpe rsw rce rhe rba rup rsa rri rse rgr rle, zAJ cJ adU 1 uo] sz)) 1 6 (va_A [zX5 adB adA bs, zAL cO adA 3 lf, zX1 adL adc adp ads adr lmo lha lfo lma lst lou, zX3 adr rpr rpe rsw rce rhe rba rup rsa rri rse rgr rle, zAJ cJ adU 1 uo] sz) := by
  refine va_MetW (cc := cL_swing) (maxL := 4) (ret := (some .int)) (by decide) rfl ?_
  intro p e s m args below meth c s₁ B hml hv
  obtain ⟨rfl, hsz, hP, hK, hD0, hG⟩ := hv
  have hx := B.exec
  have hb := B.bytes
  have hr := B.returns
  have hts := ht_of B.pre
  have hown : s.vm.findClass RL = some m.cls := findClass_of_methodNamed B.named
  have hlocks := B.notSynchronized
  have htab := vx_table (x := yL_swing) B (hts _ wd_3_234)
  subst hsz
  have hD := hD0.self (sz := s.heap.size)
  generalize hAe : va_A [zX5 adB adA bs, zAL cO adA 3 lf, zX1 adL adc adp ads adr lmo lha lfo lma lst lou, zX3 adr rpr rpe rsw rce rhe rba rup rsa rri rse rgr rle, zAJ cJ adU 1 uo] s.heap.size = A at hD hG ⊢
  have hA : ∀ q : Nat, s.heap.size ≤ q → A q := fun q h => by rw [← hAe]; exact Or.inr h
  have hS : va_S A s.heap s.heap [] := va_S.rf
  have hP : va_P (dC, dI) vwCl [zX5 adB adA bs, zAL cO adA 3 lf, zX1 adL adc adp ads adr lmo lha lfo lma lst lou, zX3 adr rpr rpe rsw rce rhe rba rup rsa rri rse rgr rle, zAJ cJ adU 1 uo] s.heap := hP
  have hl := lv_entry ([.ref adB, .int lp, .ref adU]) (n := 4) (Nat.le_of_ble_eq_true rfl)
  rw [lg_entry_eq]
  generalize (lg_sl ([.ref adB, .int lp, .ref adU]) ++ List.replicate (4 - (lg_sl ([.ref adB, .int lp, .ref adU])).length) Slot.unset).toArray = ls at hl ⊢
  have hl : lv_has ls 4 [(0, .ref adB), (1, .int lp), (2, .ref adU)] := hl
  refine hh_name (fun Q hQ => ?_)
  refine lv_aload_n hx hb dL_swing_0 rfl (lv_at hl 2 rfl) ?_
  refine lv_iconst (v := 0) hx hb dL_swing_1 (by decide) ?_
  refine lv_aload_n hx hb dL_swing_2 rfl (lv_at hl 0 rfl) ?_
  refine lv_iload_n hx hb dL_swing_3 rfl (lv_at hl 1 rfl) ?_
  refine hh_xcalll (w2 := [zX5 adB adA bs, zAL cO adA 3 lf, zX1 adL adc adp ads adr lmo lha lfo lma lst lou, zX3 adr rpr rpe rsw rce rhe rba rup rsa rri rse rgr rle, zAJ cJ adU 1 uo]) (vx_runV (As := [.int lp]) (rest := [.int (0 : Int32), .ref adU]) ⟨hx, hb, hml, hown, hts⟩ (c_X5_swing l dC dI cI cJ cZ cO adB adA bs lf adL adc adp ads adr lmo lha lfo lma lst lou rpr rpe rsw rce rhe rba rup rsa rri rse rgr rle lp _ hfl hl0 hl3 hlf) (cwV 1 hts (gd_V wd_3_235 wd_3_236 wd_3_237 wd_1_1 wd_3_238) rfl rfl rfl (by decide +kernel) ⟨Nat.le_of_ble_eq_true rfl, Nat.le_of_ble_eq_true rfl⟩) (hh_pV (ci := 5) (q := (RX5, TX5, 2)) (q0 := 0) rfl rfl (gT_c _) (gT_call hG.1 hS (va_free hD hS hA [0, 1, 2, 3] rfl)) hK hP hD [0, 1, 2, 3] rfl rfl) rfl rfl hl.1 rfl (lv_room (Nat.le_of_ble_eq_true rfl)) dL_swing_4 ⟨Nat.le_of_ble_eq_true rfl, Nat.le_of_ble_eq_true rfl⟩) hP hD hS hA [0, 1, 2, 3] [4] [1, 2, 3, 4, 0] rfl rfl rfl (by decide) rfl rfl rfl (fun E ce q9 H locs h1 hE hP hD hS hc1 hc2 hc3 => ?_) (fun H locs h1 hP hD hS => ?_)
  · skip
    rcases bd_swing rpr with hc | hc
    · exact absurd hc h1
    · skip
      rw [hc] at hE
      subst hE
      refine vx_catch (name := exN 3) hown [⟨0, 8, 11, 13⟩] ⟨0, 8, 14, 25⟩ [] htab (List.forall_mem_cons.mpr ⟨Or.inr ⟨by decide, exN 1, hts _ wd_2_22, hG.2.2.1⟩, fun _ h => nomatch h⟩) rfl (by decide) (hts _ wd_2_132) (va_Nw.use rfl hG.1.2.1.2.2.2.2.2.2.1) hc1 hc2 hc3 ?_
      refine W.eq (g2 := F0 m 14 ls [.ref q9]) rfl ?_
      refine lv_astore_n (lv' := [(3, .ref q9), (0, .ref adB), (1, .int lp), (2, .ref adU)]) hx hb dL_swing_14 rfl hl (by decide) rfl (fun ls hl => ?_)
      refine lv_iconst (v := 2) hx hb dL_swing_15 (by decide) ?_
      refine W.widen (k := 1) (n := 6) (Nat.le_of_ble_eq_true rfl) (Nat.le_of_ble_eq_true rfl) ?_
      exact hh_reti hQ (((if_neg h1).trans (show (wr13 (f_X5_swing_x rpr)) = 2 from by rw [hc]; rfl)).symm) hx hb hr hlocks (by rw [show (f_L_swing_uo rpr rsw uo) = uo from if_neg h1]; exact hP) hK (by rw [show (f_L_swing_uo rpr rsw uo) = uo from if_neg h1]; exact hD) hS dL_swing_16
  · skip
    refine va_last hx hb hK hP hD hS 4 1 rfl rfl (i := (0 : Int32)) (ix_d (by decide)) dL_swing_7 (fun H locs hP hD hS => ?_)
    have hP : va_P (dC, dI) vwCl [zX5 adB adA bs, zAL cO adA 3 lf, zX1 adL adc adp ads adr lmo lha lfo lma lst lou, zX3 adr rpr rpe rsw rce rhe rba rup rsa rri rse rgr rle, zAJ cJ adU 1 (vp_updL uo (0 : Int32).toNatClampNeg rsw)] H := hP
    have hD : va_D A [zX5 adB adA bs, zAL cO adA 3 lf, zX1 adL adc adp ads adr lmo lha lfo lma lst lou, zX3 adr rpr rpe rsw rce rhe rba rup rsa rri rse rgr rle, zAJ cJ adU 1 (vp_updL uo (0 : Int32).toNatClampNeg rsw)] := hD
    refine lv_goto (tgt := 17) hx hb dL_swing_8 (by decide) ?_
    refine lv_iconst (v := 0) hx hb dL_swing_17 (by decide) ?_
    exact hh_reti hQ ((if_pos h1).symm) hx hb hr hlocks (by rw [show (f_L_swing_uo rpr rsw uo) = (vp_updL uo (0 : Int32).toNatClampNeg rsw) from if_pos h1]; exact hP) hK (by rw [show (f_L_swing_uo rpr rsw uo) = (vp_updL uo (0 : Int32).toNatClampNeg rsw) from if_pos h1]; exact hD) hS dL_swing_18
set_option maxHeartbeats 4000000 in
set_option maxRecDepth 100000 in
theorem c_L_swing_o (l : Launch) (dC : Nat → ClassId) (dI : Nat → Nat → Nat) (cI cJ cZ cO : ClassId) (adB adA : Nat) (bs : Int32) (lf : Nat → Option Nat) (adU : Nat) (uo : Nat → Int64) (lp : Int32) (sz : Nat) (hfl : l.stackTraces = false) (hlo : ¬ lp < (0 : Int32) → ¬ lp < (3 : Int32)) : Met l yL_swing (Cond.codeWith yL_swing cL_swing 4 (some .int) [(0, 8, 11, 13), (0, 8, 14, 25)] :: wAll) ({ frames := 8, cells := 1, slots := 6, locals := 125 }) (va_Pc [.ref adB, .int lp, .ref adU] (gP (dC, dI) [zX5 adB adA bs, zAL cO adA 3 lf, zAJ cJ adU 1 uo] (tyG cI cJ cZ cO) sz (gW (va_A [zX5 adB adA bs, zAL cO adA 3 lf, zAJ cJ adU 1 uo] sz)))) (va_Qi (fun r (_ : Unit) => r = (wr13 1)) (fun _ t => gB (dC, dI) (va_A [zX5 adB adA bs, zAL cO adA 3 lf, zAJ cJ adU 1 uo] sz) [zX5 adB adA bs, zAL cO adA 3 lf, zAJ cJ adU 1 uo] (tyG cI cJ cZ cO) t) (va_A [zX5 adB adA bs, zAL cO adA 3 lf, zAJ cJ adU 1 uo] sz)) 1 6 (va_A [zX5 adB adA bs, zAL cO adA 3 lf, zAJ cJ adU 1 uo] sz) := by
  refine va_MetW (cc := cL_swing) (maxL := 4) (ret := (some .int)) (by decide) rfl ?_
  intro p e s m args below meth c s₁ B hml hv
  obtain ⟨rfl, hsz, hP, hK, hD0, hG⟩ := hv
  have hx := B.exec
  have hb := B.bytes
  have hr := B.returns
  have hts := ht_of B.pre
  have hown : s.vm.findClass RL = some m.cls := findClass_of_methodNamed B.named
  have hlocks := B.notSynchronized
  have htab := vx_table (x := yL_swing) B (hts _ wd_3_234)
  subst hsz
  have hD := hD0.self (sz := s.heap.size)
  generalize hAe : va_A [zX5 adB adA bs, zAL cO adA 3 lf, zAJ cJ adU 1 uo] s.heap.size = A at hD hG ⊢
  have hA : ∀ q : Nat, s.heap.size ≤ q → A q := fun q h => by rw [← hAe]; exact Or.inr h
  have hS : va_S A s.heap s.heap [] := va_S.rf
  have hP : va_P (dC, dI) vwCl [zX5 adB adA bs, zAL cO adA 3 lf, zAJ cJ adU 1 uo] s.heap := hP
  have hl := lv_entry ([.ref adB, .int lp, .ref adU]) (n := 4) (Nat.le_of_ble_eq_true rfl)
  rw [lg_entry_eq]
  generalize (lg_sl ([.ref adB, .int lp, .ref adU]) ++ List.replicate (4 - (lg_sl ([.ref adB, .int lp, .ref adU])).length) Slot.unset).toArray = ls at hl ⊢
  have hl : lv_has ls 4 [(0, .ref adB), (1, .int lp), (2, .ref adU)] := hl
  refine hh_name (fun Q hQ => ?_)
  refine lv_aload_n hx hb dL_swing_0 rfl (lv_at hl 2 rfl) ?_
  refine lv_iconst (v := 0) hx hb dL_swing_1 (by decide) ?_
  refine lv_aload_n hx hb dL_swing_2 rfl (lv_at hl 0 rfl) ?_
  refine lv_iload_n hx hb dL_swing_3 rfl (lv_at hl 1 rfl) ?_
  refine hh_xcalll (w2 := [zX5 adB adA bs, zAL cO adA 3 lf, zAJ cJ adU 1 uo]) (vx_runV (As := [.int lp]) (rest := [.int (0 : Int32), .ref adU]) ⟨hx, hb, hml, hown, hts⟩ (c_X5_swing_o l dC dI cI cJ cZ cO adB adA bs lf lp _ hfl hlo) (cwV 1 hts (gd_V wd_3_235 wd_3_236 wd_3_237 wd_1_1 wd_3_238) rfl rfl rfl (by decide +kernel) ⟨Nat.le_of_ble_eq_true rfl, Nat.le_of_ble_eq_true rfl⟩) (hh_pV (ci := 5) (q := (RX5, TX5, 2)) (q0 := 0) rfl rfl (gT_c _) (gT_call hG.1 hS (va_free hD hS hA [0, 1] rfl)) hK hP hD [0, 1] rfl rfl) rfl rfl hl.1 rfl (lv_room (Nat.le_of_ble_eq_true rfl)) dL_swing_4 ⟨Nat.le_of_ble_eq_true rfl, Nat.le_of_ble_eq_true rfl⟩) hP hD hS hA [0, 1] [2] [1, 2, 0] rfl rfl rfl (by decide) rfl rfl rfl (fun E ce q9 H locs h1 hE hP hD hS hc1 hc2 hc3 => ?_) (fun H locs h1 hP hD hS => ?_)
  · skip
    have hc : 1 = 1 := rfl
    rw [hc] at hE
    subst hE
    refine vx_catch (name := exN 1) hown [] ⟨0, 8, 11, 13⟩ [⟨0, 8, 14, 25⟩] htab (fun _ h => nomatch h) rfl (by decide) (hts _ wd_2_22) (va_Nw.use rfl hG.1.2.1.2.2.2.2.1) hc1 hc2 hc3 ?_
    refine W.eq (g2 := F0 m 11 ls [.ref q9]) rfl ?_
    refine lv_astore_n (lv' := [(3, .ref q9), (0, .ref adB), (1, .int lp), (2, .ref adU)]) hx hb dL_swing_11 rfl hl (by decide) rfl (fun ls hl => ?_)
    refine lv_iconst (v := 1) hx hb dL_swing_12 (by decide) ?_
    refine W.widen (k := 1) (n := 6) (Nat.le_of_ble_eq_true rfl) (Nat.le_of_ble_eq_true rfl) ?_
    exact hh_reti hQ (((show (wr13 1) = 1 from by rw [hc]; rfl)).symm) hx hb hr hlocks hP hK hD hS dL_swing_13
  · skip
    exact absurd h1 (by decide)
theorem bd_ultimateGain (rpr : Int32) (rsw : Int64) : f_X5_ultimateGain_x rpr rsw = 0 ∨ f_X5_ultimateGain_x rpr rsw = 3 := by
  have h0 := bd_requireState (f_X5_ultimateGain_j1_1 rpr rsw)
  unfold f_X5_ultimateGain_x; repeat' split
  all_goals omega
def f_L_ultimateGain_uo (rpr : Int32) (rsw : Int64) (rhe : Int32) (uo : Nat → Int64) : Nat → Int64 := if (f_X5_ultimateGain_x rpr rsw) = 0 then (vp_updL uo (0 : Int32).toNatClampNeg ((f_X5_ultimateGain_r rsw rhe).toInt64)) else uo
def f_L_ultimateGain_r (rpr : Int32) (rsw : Int64) : Int32 := if (f_X5_ultimateGain_x rpr rsw) = 0 then (0 : Int32) else (wr13 (f_X5_ultimateGain_x rpr rsw))
set_option maxHeartbeats 4000000 in
set_option maxRecDepth 100000 in
theorem c_L_ultimateGain (l : Launch) (dC : Nat → ClassId) (dI : Nat → Nat → Nat) (cI cJ cZ cO : ClassId) (adB adA : Nat) (bs : Int32) (lf : Nat → Option Nat) (adL adc adp ads adr : Nat) (lmo : Int32) (lha : Int64) (lfo lma lst : Int32) (lou : Int64) (rpr rpe : Int32) (rsw rce : Int64) (rhe rba rup rsa rri rse : Int32) (rgr rle : Int64) (adU : Nat) (uo : Nat → Int64) (lp : Int32) (sz : Nat) (hfl : l.stackTraces = false) (hl0 : ¬ lp < (0 : Int32)) (hl3 : lp < (3 : Int32)) (hlf : lf lp.toNatClampNeg = some adL) (hsw : rsw ≤ (2000000 : Int64)) : Met l yL_ultimateGain (Cond.codeWith yL_ultimateGain cL_ultimateGain 4 (some .int) [(0, 9, 12, 13), (0, 9, 15, 25)] :: wAll) ({ frames := 8, cells := 1, slots := 6, locals := 124 }) (va_Pc [.ref adB, .int lp, .ref adU] (gP (dC, dI) [zX5 adB adA bs, zAL cO adA 3 lf, zX1 adL adc adp ads adr lmo lha lfo lma lst lou, zX3 adr rpr rpe rsw rce rhe rba rup rsa rri rse rgr rle, zAJ cJ adU 1 uo] (tyG cI cJ cZ cO) sz (gW (va_A [zX5 adB adA bs, zAL cO adA 3 lf, zX1 adL adc adp ads adr lmo lha lfo lma lst lou, zX3 adr rpr rpe rsw rce rhe rba rup rsa rri rse rgr rle, zAJ cJ adU 1 uo] sz)))) (va_Qi (fun r (_ : Unit) => r = (f_L_ultimateGain_r rpr rsw)) (fun _ t => gB (dC, dI) (va_A [zX5 adB adA bs, zAL cO adA 3 lf, zX1 adL adc adp ads adr lmo lha lfo lma lst lou, zX3 adr rpr rpe rsw rce rhe rba rup rsa rri rse rgr rle, zAJ cJ adU 1 uo] sz) [zX5 adB adA bs, zAL cO adA 3 lf, zX1 adL adc adp ads adr lmo lha lfo lma lst lou, zX3 adr rpr rpe rsw rce rhe rba rup rsa rri rse rgr rle, zAJ cJ adU 1 (f_L_ultimateGain_uo rpr rsw rhe uo)] (tyG cI cJ cZ cO) t) (va_A [zX5 adB adA bs, zAL cO adA 3 lf, zX1 adL adc adp ads adr lmo lha lfo lma lst lou, zX3 adr rpr rpe rsw rce rhe rba rup rsa rri rse rgr rle, zAJ cJ adU 1 uo] sz)) 1 6 (va_A [zX5 adB adA bs, zAL cO adA 3 lf, zX1 adL adc adp ads adr lmo lha lfo lma lst lou, zX3 adr rpr rpe rsw rce rhe rba rup rsa rri rse rgr rle, zAJ cJ adU 1 uo] sz) := by
  refine va_MetW (cc := cL_ultimateGain) (maxL := 4) (ret := (some .int)) (by decide) rfl ?_
  intro p e s m args below meth c s₁ B hml hv
  obtain ⟨rfl, hsz, hP, hK, hD0, hG⟩ := hv
  have hx := B.exec
  have hb := B.bytes
  have hr := B.returns
  have hts := ht_of B.pre
  have hown : s.vm.findClass RL = some m.cls := findClass_of_methodNamed B.named
  have hlocks := B.notSynchronized
  have htab := vx_table (x := yL_ultimateGain) B (hts _ wd_4_1)
  subst hsz
  have hD := hD0.self (sz := s.heap.size)
  generalize hAe : va_A [zX5 adB adA bs, zAL cO adA 3 lf, zX1 adL adc adp ads adr lmo lha lfo lma lst lou, zX3 adr rpr rpe rsw rce rhe rba rup rsa rri rse rgr rle, zAJ cJ adU 1 uo] s.heap.size = A at hD hG ⊢
  have hA : ∀ q : Nat, s.heap.size ≤ q → A q := fun q h => by rw [← hAe]; exact Or.inr h
  have hS : va_S A s.heap s.heap [] := va_S.rf
  have hP : va_P (dC, dI) vwCl [zX5 adB adA bs, zAL cO adA 3 lf, zX1 adL adc adp ads adr lmo lha lfo lma lst lou, zX3 adr rpr rpe rsw rce rhe rba rup rsa rri rse rgr rle, zAJ cJ adU 1 uo] s.heap := hP
  have hl := lv_entry ([.ref adB, .int lp, .ref adU]) (n := 4) (Nat.le_of_ble_eq_true rfl)
  rw [lg_entry_eq]
  generalize (lg_sl ([.ref adB, .int lp, .ref adU]) ++ List.replicate (4 - (lg_sl ([.ref adB, .int lp, .ref adU])).length) Slot.unset).toArray = ls at hl ⊢
  have hl : lv_has ls 4 [(0, .ref adB), (1, .int lp), (2, .ref adU)] := hl
  refine hh_name (fun Q hQ => ?_)
  refine lv_aload_n hx hb dL_ultimateGain_0 rfl (lv_at hl 2 rfl) ?_
  refine lv_iconst (v := 0) hx hb dL_ultimateGain_1 (by decide) ?_
  refine lv_aload_n hx hb dL_ultimateGain_2 rfl (lv_at hl 0 rfl) ?_
  refine lv_iload_n hx hb dL_ultimateGain_3 rfl (lv_at hl 1 rfl) ?_
  refine hh_xcalli (w2 := [zX5 adB adA bs, zAL cO adA 3 lf, zX1 adL adc adp ads adr lmo lha lfo lma lst lou, zX3 adr rpr rpe rsw rce rhe rba rup rsa rri rse rgr rle, zAJ cJ adU 1 uo]) (vx_runV (As := [.int lp]) (rest := [.int (0 : Int32), .ref adU]) ⟨hx, hb, hml, hown, hts⟩ (c_X5_ultimateGain l dC dI cI cJ cZ cO adB adA bs lf adL adc adp ads adr lmo lha lfo lma lst lou rpr rpe rsw rce rhe rba rup rsa rri rse rgr rle lp _ hfl hl0 hl3 hlf hsw) (cwV 1 hts (gd_V wd_4_2 wd_4_3 wd_4_4 wd_1_1 wd_4_5) rfl rfl rfl (by decide +kernel) ⟨Nat.le_of_ble_eq_true rfl, Nat.le_of_ble_eq_true rfl⟩) (hh_pV (ci := 5) (q := (RX5, TX5, 2)) (q0 := 0) rfl rfl (gT_c _) (gT_call hG.1 hS (va_free hD hS hA [0, 1, 2, 3] rfl)) hK hP hD [0, 1, 2, 3] rfl rfl) rfl rfl hl.1 rfl (lv_room (Nat.le_of_ble_eq_true rfl)) dL_ultimateGain_4 ⟨Nat.le_of_ble_eq_true rfl, Nat.le_of_ble_eq_true rfl⟩) hP hD hS hA [0, 1, 2, 3] [4] [1, 2, 3, 4, 0] rfl rfl rfl (by decide) rfl rfl rfl (fun E ce q9 H locs h1 hE hP hD hS hc1 hc2 hc3 => ?_) (fun H locs h1 hP hD hS => ?_)
  · skip
    rcases bd_ultimateGain rpr rsw with hc | hc
    · exact absurd hc h1
    · skip
      rw [hc] at hE
      subst hE
      refine vx_catch (name := exN 3) hown [⟨0, 9, 12, 13⟩] ⟨0, 9, 15, 25⟩ [] htab (List.forall_mem_cons.mpr ⟨Or.inr ⟨by decide, exN 1, hts _ wd_2_22, hG.2.2.1⟩, fun _ h => nomatch h⟩) rfl (by decide) (hts _ wd_2_132) (va_Nw.use rfl hG.1.2.1.2.2.2.2.2.2.1) hc1 hc2 hc3 ?_
      refine W.eq (g2 := F0 m 15 ls [.ref q9]) rfl ?_
      refine lv_astore_n (lv' := [(3, .ref q9), (0, .ref adB), (1, .int lp), (2, .ref adU)]) hx hb dL_ultimateGain_15 rfl hl (by decide) rfl (fun ls hl => ?_)
      refine lv_iconst (v := 2) hx hb dL_ultimateGain_16 (by decide) ?_
      refine W.widen (k := 1) (n := 6) (Nat.le_of_ble_eq_true rfl) (Nat.le_of_ble_eq_true rfl) ?_
      exact hh_reti hQ (((if_neg h1).trans (show (wr13 (f_X5_ultimateGain_x rpr rsw)) = 2 from by rw [hc]; rfl)).symm) hx hb hr hlocks (by rw [show (f_L_ultimateGain_uo rpr rsw rhe uo) = uo from if_neg h1]; exact hP) hK (by rw [show (f_L_ultimateGain_uo rpr rsw rhe uo) = uo from if_neg h1]; exact hD) hS dL_ultimateGain_17
  · skip
    refine lv_i2l hx hb dL_ultimateGain_7 rfl ?_
    refine va_last hx hb hK hP hD hS 4 1 rfl rfl (i := (0 : Int32)) (ix_d (by decide)) dL_ultimateGain_8 (fun H locs hP hD hS => ?_)
    have hP : va_P (dC, dI) vwCl [zX5 adB adA bs, zAL cO adA 3 lf, zX1 adL adc adp ads adr lmo lha lfo lma lst lou, zX3 adr rpr rpe rsw rce rhe rba rup rsa rri rse rgr rle, zAJ cJ adU 1 (vp_updL uo (0 : Int32).toNatClampNeg ((f_X5_ultimateGain_r rsw rhe).toInt64))] H := hP
    have hD : va_D A [zX5 adB adA bs, zAL cO adA 3 lf, zX1 adL adc adp ads adr lmo lha lfo lma lst lou, zX3 adr rpr rpe rsw rce rhe rba rup rsa rri rse rgr rle, zAJ cJ adU 1 (vp_updL uo (0 : Int32).toNatClampNeg ((f_X5_ultimateGain_r rsw rhe).toInt64))] := hD
    refine lv_goto (tgt := 18) hx hb dL_ultimateGain_9 (by decide) ?_
    refine lv_iconst (v := 0) hx hb dL_ultimateGain_18 (by decide) ?_
    exact hh_reti hQ ((if_pos h1).symm) hx hb hr hlocks (by rw [show (f_L_ultimateGain_uo rpr rsw rhe uo) = (vp_updL uo (0 : Int32).toNatClampNeg ((f_X5_ultimateGain_r rsw rhe).toInt64)) from if_pos h1]; exact hP) hK (by rw [show (f_L_ultimateGain_uo rpr rsw rhe uo) = (vp_updL uo (0 : Int32).toNatClampNeg ((f_X5_ultimateGain_r rsw rhe).toInt64)) from if_pos h1]; exact hD) hS dL_ultimateGain_19
set_option maxHeartbeats 4000000 in
set_option maxRecDepth 100000 in
theorem c_L_ultimateGain_o (l : Launch) (dC : Nat → ClassId) (dI : Nat → Nat → Nat) (cI cJ cZ cO : ClassId) (adB adA : Nat) (bs : Int32) (lf : Nat → Option Nat) (adU : Nat) (uo : Nat → Int64) (lp : Int32) (sz : Nat) (hfl : l.stackTraces = false) (hlo : ¬ lp < (0 : Int32) → ¬ lp < (3 : Int32)) : Met l yL_ultimateGain (Cond.codeWith yL_ultimateGain cL_ultimateGain 4 (some .int) [(0, 9, 12, 13), (0, 9, 15, 25)] :: wAll) ({ frames := 8, cells := 1, slots := 6, locals := 125 }) (va_Pc [.ref adB, .int lp, .ref adU] (gP (dC, dI) [zX5 adB adA bs, zAL cO adA 3 lf, zAJ cJ adU 1 uo] (tyG cI cJ cZ cO) sz (gW (va_A [zX5 adB adA bs, zAL cO adA 3 lf, zAJ cJ adU 1 uo] sz)))) (va_Qi (fun r (_ : Unit) => r = (wr13 1)) (fun _ t => gB (dC, dI) (va_A [zX5 adB adA bs, zAL cO adA 3 lf, zAJ cJ adU 1 uo] sz) [zX5 adB adA bs, zAL cO adA 3 lf, zAJ cJ adU 1 uo] (tyG cI cJ cZ cO) t) (va_A [zX5 adB adA bs, zAL cO adA 3 lf, zAJ cJ adU 1 uo] sz)) 1 6 (va_A [zX5 adB adA bs, zAL cO adA 3 lf, zAJ cJ adU 1 uo] sz) := by
  refine va_MetW (cc := cL_ultimateGain) (maxL := 4) (ret := (some .int)) (by decide) rfl ?_
  intro p e s m args below meth c s₁ B hml hv
  obtain ⟨rfl, hsz, hP, hK, hD0, hG⟩ := hv
  have hx := B.exec
  have hb := B.bytes
  have hr := B.returns
  have hts := ht_of B.pre
  have hown : s.vm.findClass RL = some m.cls := findClass_of_methodNamed B.named
  have hlocks := B.notSynchronized
  have htab := vx_table (x := yL_ultimateGain) B (hts _ wd_4_1)
  subst hsz
  have hD := hD0.self (sz := s.heap.size)
  generalize hAe : va_A [zX5 adB adA bs, zAL cO adA 3 lf, zAJ cJ adU 1 uo] s.heap.size = A at hD hG ⊢
  have hA : ∀ q : Nat, s.heap.size ≤ q → A q := fun q h => by rw [← hAe]; exact Or.inr h
  have hS : va_S A s.heap s.heap [] := va_S.rf
  have hP : va_P (dC, dI) vwCl [zX5 adB adA bs, zAL cO adA 3 lf, zAJ cJ adU 1 uo] s.heap := hP
  have hl := lv_entry ([.ref adB, .int lp, .ref adU]) (n := 4) (Nat.le_of_ble_eq_true rfl)
  rw [lg_entry_eq]
  generalize (lg_sl ([.ref adB, .int lp, .ref adU]) ++ List.replicate (4 - (lg_sl ([.ref adB, .int lp, .ref adU])).length) Slot.unset).toArray = ls at hl ⊢
  have hl : lv_has ls 4 [(0, .ref adB), (1, .int lp), (2, .ref adU)] := hl
  refine hh_name (fun Q hQ => ?_)
  refine lv_aload_n hx hb dL_ultimateGain_0 rfl (lv_at hl 2 rfl) ?_
  refine lv_iconst (v := 0) hx hb dL_ultimateGain_1 (by decide) ?_
  refine lv_aload_n hx hb dL_ultimateGain_2 rfl (lv_at hl 0 rfl) ?_
  refine lv_iload_n hx hb dL_ultimateGain_3 rfl (lv_at hl 1 rfl) ?_
  refine hh_xcalli (w2 := [zX5 adB adA bs, zAL cO adA 3 lf, zAJ cJ adU 1 uo]) (vx_runV (As := [.int lp]) (rest := [.int (0 : Int32), .ref adU]) ⟨hx, hb, hml, hown, hts⟩ (c_X5_ultimateGain_o l dC dI cI cJ cZ cO adB adA bs lf lp _ hfl hlo) (cwV 1 hts (gd_V wd_4_2 wd_4_3 wd_4_4 wd_1_1 wd_4_5) rfl rfl rfl (by decide +kernel) ⟨Nat.le_of_ble_eq_true rfl, Nat.le_of_ble_eq_true rfl⟩) (hh_pV (ci := 5) (q := (RX5, TX5, 2)) (q0 := 0) rfl rfl (gT_c _) (gT_call hG.1 hS (va_free hD hS hA [0, 1] rfl)) hK hP hD [0, 1] rfl rfl) rfl rfl hl.1 rfl (lv_room (Nat.le_of_ble_eq_true rfl)) dL_ultimateGain_4 ⟨Nat.le_of_ble_eq_true rfl, Nat.le_of_ble_eq_true rfl⟩) hP hD hS hA [0, 1] [2] [1, 2, 0] rfl rfl rfl (by decide) rfl rfl rfl (fun E ce q9 H locs h1 hE hP hD hS hc1 hc2 hc3 => ?_) (fun H locs h1 hP hD hS => ?_)
  · skip
    have hc : 1 = 1 := rfl
    rw [hc] at hE
    subst hE
    refine vx_catch (name := exN 1) hown [] ⟨0, 9, 12, 13⟩ [⟨0, 9, 15, 25⟩] htab (fun _ h => nomatch h) rfl (by decide) (hts _ wd_2_22) (va_Nw.use rfl hG.1.2.1.2.2.2.2.1) hc1 hc2 hc3 ?_
    refine W.eq (g2 := F0 m 12 ls [.ref q9]) rfl ?_
    refine lv_astore_n (lv' := [(3, .ref q9), (0, .ref adB), (1, .int lp), (2, .ref adU)]) hx hb dL_ultimateGain_12 rfl hl (by decide) rfl (fun ls hl => ?_)
    refine lv_iconst (v := 1) hx hb dL_ultimateGain_13 (by decide) ?_
    refine W.widen (k := 1) (n := 6) (Nat.le_of_ble_eq_true rfl) (Nat.le_of_ble_eq_true rfl) ?_
    exact hh_reti hQ (((show (wr13 1) = 1 from by rw [hc]; rfl)).symm) hx hb hr hlocks hP hK hD hS dL_ultimateGain_14
  · skip
    exact absurd h1 (by decide)
theorem bd_proposed (rpr rpe : Int32) (rsw : Int64) (ruv wh : Int32) : f_X5_proposed_x rpr rpe rsw ruv wh = 0 ∨ f_X5_proposed_x rpr rpe rsw ruv wh = 1 ∨ f_X5_proposed_x rpr rpe rsw ruv wh = 2 ∨ f_X5_proposed_x rpr rpe rsw ruv wh = 3 := by
  have h0 := bd_requireGainNumber wh
  have h1 := bd_requireWithin ruv (0 : Int32) (1 : Int32)
  have h2 := bd_requireState (f_X5_proposed_j1_1 rpr rpe rsw)
  unfold f_X5_proposed_x; repeat' split
  all_goals omega
def f_L_proposed_uo (rpr rpe : Int32) (rsw : Int64) (rhe : Int32) (uo : Nat → Int64) (ruv wh : Int32) : Nat → Int64 := if (f_X5_proposed_x rpr rpe rsw ruv wh) = 0 then (vp_updL uo (0 : Int32).toNatClampNeg ((f_X5_proposed_r rpe rsw rhe ruv wh).toInt64)) else uo
def f_L_proposed_r (rpr rpe : Int32) (rsw : Int64) (ruv wh : Int32) : Int32 := if (f_X5_proposed_x rpr rpe rsw ruv wh) = 0 then (0 : Int32) else (wr123 (f_X5_proposed_x rpr rpe rsw ruv wh))
set_option maxHeartbeats 4000000 in
set_option maxRecDepth 100000 in
theorem c_L_proposed (l : Launch) (dC : Nat → ClassId) (dI : Nat → Nat → Nat) (cI cJ cZ cO : ClassId) (adB adA : Nat) (bs : Int32) (lf : Nat → Option Nat) (adL adc adp ads adr : Nat) (lmo : Int32) (lha : Int64) (lfo lma lst : Int32) (lou : Int64) (rpr rpe : Int32) (rsw rce : Int64) (rhe rba rup rsa rri rse : Int32) (rgr rle : Int64) (adU : Nat) (uo : Nat → Int64) (lp ruv wh : Int32) (sz : Nat) (hfl : l.stackTraces = false) (hl0 : ¬ lp < (0 : Int32)) (hl3 : lp < (3 : Int32)) (hlf : lf lp.toNatClampNeg = some adL) (hsw : rsw ≤ (2000000 : Int64)) : Met l yL_proposed (Cond.codeWith yL_proposed cL_proposed 6 (some .int) [(0, 12, 15, 13), (0, 12, 19, 15), (0, 12, 23, 25)] :: wAll) ({ frames := 9, cells := 3, slots := 18, locals := 148 }) (va_Pc [.ref adB, .int lp, .int ruv, .int wh, .ref adU] (gP (dC, dI) [zX5 adB adA bs, zAL cO adA 3 lf, zX1 adL adc adp ads adr lmo lha lfo lma lst lou, zX3 adr rpr rpe rsw rce rhe rba rup rsa rri rse rgr rle, zAJ cJ adU 1 uo] (tyG cI cJ cZ cO) sz (gW (va_A [zX5 adB adA bs, zAL cO adA 3 lf, zX1 adL adc adp ads adr lmo lha lfo lma lst lou, zX3 adr rpr rpe rsw rce rhe rba rup rsa rri rse rgr rle, zAJ cJ adU 1 uo] sz)))) (va_Qi (fun r (_ : Unit) => r = (f_L_proposed_r rpr rpe rsw ruv wh)) (fun _ t => gB (dC, dI) (va_A [zX5 adB adA bs, zAL cO adA 3 lf, zX1 adL adc adp ads adr lmo lha lfo lma lst lou, zX3 adr rpr rpe rsw rce rhe rba rup rsa rri rse rgr rle, zAJ cJ adU 1 uo] sz) [zX5 adB adA bs, zAL cO adA 3 lf, zX1 adL adc adp ads adr lmo lha lfo lma lst lou, zX3 adr rpr rpe rsw rce rhe rba rup rsa rri rse rgr rle, zAJ cJ adU 1 (f_L_proposed_uo rpr rpe rsw rhe uo ruv wh)] (tyG cI cJ cZ cO) t) (va_A [zX5 adB adA bs, zAL cO adA 3 lf, zX1 adL adc adp ads adr lmo lha lfo lma lst lou, zX3 adr rpr rpe rsw rce rhe rba rup rsa rri rse rgr rle, zAJ cJ adU 1 uo] sz)) 3 18 (va_A [zX5 adB adA bs, zAL cO adA 3 lf, zX1 adL adc adp ads adr lmo lha lfo lma lst lou, zX3 adr rpr rpe rsw rce rhe rba rup rsa rri rse rgr rle, zAJ cJ adU 1 uo] sz) := by
  refine va_MetW (cc := cL_proposed) (maxL := 6) (ret := (some .int)) (by decide) rfl ?_
  intro p e s m args below meth c s₁ B hml hv
  obtain ⟨rfl, hsz, hP, hK, hD0, hG⟩ := hv
  have hx := B.exec
  have hb := B.bytes
  have hr := B.returns
  have hts := ht_of B.pre
  have hown : s.vm.findClass RL = some m.cls := findClass_of_methodNamed B.named
  have hlocks := B.notSynchronized
  have htab := vx_table (x := yL_proposed) B (hts _ wd_4_15)
  subst hsz
  have hD := hD0.self (sz := s.heap.size)
  generalize hAe : va_A [zX5 adB adA bs, zAL cO adA 3 lf, zX1 adL adc adp ads adr lmo lha lfo lma lst lou, zX3 adr rpr rpe rsw rce rhe rba rup rsa rri rse rgr rle, zAJ cJ adU 1 uo] s.heap.size = A at hD hG ⊢
  have hA : ∀ q : Nat, s.heap.size ≤ q → A q := fun q h => by rw [← hAe]; exact Or.inr h
  have hS : va_S A s.heap s.heap [] := va_S.rf
  have hP : va_P (dC, dI) vwCl [zX5 adB adA bs, zAL cO adA 3 lf, zX1 adL adc adp ads adr lmo lha lfo lma lst lou, zX3 adr rpr rpe rsw rce rhe rba rup rsa rri rse rgr rle, zAJ cJ adU 1 uo] s.heap := hP
  have hl := lv_entry ([.ref adB, .int lp, .int ruv, .int wh, .ref adU]) (n := 6) (Nat.le_of_ble_eq_true rfl)
  rw [lg_entry_eq]
  generalize (lg_sl ([.ref adB, .int lp, .int ruv, .int wh, .ref adU]) ++ List.replicate (6 - (lg_sl ([.ref adB, .int lp, .int ruv, .int wh, .ref adU])).length) Slot.unset).toArray = ls at hl ⊢
  have hl : lv_has ls 6 [(0, .ref adB), (1, .int lp), (2, .int ruv), (3, .int wh), (4, .ref adU)] := hl
  refine hh_name (fun Q hQ => ?_)
  refine lv_aload hx hb dL_proposed_0 (lv_at hl 4 rfl) ?_
  refine lv_iconst (v := 0) hx hb dL_proposed_2 (by decide) ?_
  refine lv_aload_n hx hb dL_proposed_3 rfl (lv_at hl 0 rfl) ?_
  refine lv_iload_n hx hb dL_proposed_4 rfl (lv_at hl 1 rfl) ?_
  refine lv_iload_n hx hb dL_proposed_5 rfl (lv_at hl 2 rfl) ?_
  refine lv_iload_n hx hb dL_proposed_6 rfl (lv_at hl 3 rfl) ?_
  refine hh_xcalli (w2 := [zX5 adB adA bs, zAL cO adA 3 lf, zX1 adL adc adp ads adr lmo lha lfo lma lst lou, zX3 adr rpr rpe rsw rce rhe rba rup rsa rri rse rgr rle, zAJ cJ adU 1 uo]) (vx_runV (As := [.int lp, .int ruv, .int wh]) (rest := [.int (0 : Int32), .ref adU]) ⟨hx, hb, hml, hown, hts⟩ (c_X5_proposed l dC dI cI cJ cZ cO adB adA bs lf adL adc adp ads adr lmo lha lfo lma lst lou rpr rpe rsw rce rhe rba rup rsa rri rse rgr rle lp ruv wh _ hfl hl0 hl3 hlf hsw) (cwV 3 hts (gd_V wd_4_16 wd_4_17 wd_4_18 wd_1_1 wd_4_19) rfl rfl rfl (by decide +kernel) ⟨Nat.le_of_ble_eq_true rfl, Nat.le_of_ble_eq_true rfl⟩) (hh_pV (ci := 5) (q := (RX5, TX5, 2)) (q0 := 0) rfl rfl (gT_c _) (gT_call hG.1 hS (va_free hD hS hA [0, 1, 2, 3] rfl)) hK hP hD [0, 1, 2, 3] rfl rfl) rfl rfl hl.1 rfl (lv_room (Nat.le_of_ble_eq_true rfl)) dL_proposed_7 ⟨Nat.le_of_ble_eq_true rfl, Nat.le_of_ble_eq_true rfl⟩) hP hD hS hA [0, 1, 2, 3] [4] [1, 2, 3, 4, 0] rfl rfl rfl (by decide) rfl rfl rfl (fun E ce q9 H locs h1 hE hP hD hS hc1 hc2 hc3 => ?_) (fun H locs h1 hP hD hS => ?_)
  · skip
    rcases bd_proposed rpr rpe rsw ruv wh with hc | hc | hc | hc
    · exact absurd hc h1
    · skip
      rw [hc] at hE
      subst hE
      refine vx_catch (name := exN 1) hown [] ⟨0, 12, 15, 13⟩ [⟨0, 12, 19, 15⟩, ⟨0, 12, 23, 25⟩] htab (fun _ h => nomatch h) rfl (by decide) (hts _ wd_2_22) (va_Nw.use rfl hG.1.2.1.2.2.2.2.1) hc1 hc2 hc3 ?_
      refine W.eq (g2 := F0 m 15 ls [.ref q9]) rfl ?_
      refine lv_astore (lv' := [(5, .ref q9), (0, .ref adB), (1, .int lp), (2, .int ruv), (3, .int wh), (4, .ref adU)]) hx hb dL_proposed_15 hl (by decide) rfl (fun ls hl => ?_)
      refine lv_iconst (v := 1) hx hb dL_proposed_17 (by decide) ?_
      refine W.widen (k := 3) (n := 18) (Nat.le_of_ble_eq_true rfl) (Nat.le_of_ble_eq_true rfl) ?_
      exact hh_reti hQ (((if_neg h1).trans (show (wr123 (f_X5_proposed_x rpr rpe rsw ruv wh)) = 1 from by rw [hc]; rfl)).symm) hx hb hr hlocks (by rw [show (f_L_proposed_uo rpr rpe rsw rhe uo ruv wh) = uo from if_neg h1]; exact hP) hK (by rw [show (f_L_proposed_uo rpr rpe rsw rhe uo ruv wh) = uo from if_neg h1]; exact hD) hS dL_proposed_18
    · skip
      rw [hc] at hE
      subst hE
      refine vx_catch (name := exN 2) hown [⟨0, 12, 15, 13⟩] ⟨0, 12, 19, 15⟩ [⟨0, 12, 23, 25⟩] htab (List.forall_mem_cons.mpr ⟨Or.inr ⟨by decide, exN 1, hts _ wd_2_22, hG.2.1⟩, fun _ h => nomatch h⟩) rfl (by decide) (hts _ wd_2_23) (va_Nw.use rfl hG.1.2.1.2.2.2.2.2.1) hc1 hc2 hc3 ?_
      refine W.eq (g2 := F0 m 19 ls [.ref q9]) rfl ?_
      refine lv_astore (lv' := [(5, .ref q9), (0, .ref adB), (1, .int lp), (2, .int ruv), (3, .int wh), (4, .ref adU)]) hx hb dL_proposed_19 hl (by decide) rfl (fun ls hl => ?_)
      refine lv_iconst (v := 2) hx hb dL_proposed_21 (by decide) ?_
      refine W.widen (k := 3) (n := 18) (Nat.le_of_ble_eq_true rfl) (Nat.le_of_ble_eq_true rfl) ?_
      exact hh_reti hQ (((if_neg h1).trans (show (wr123 (f_X5_proposed_x rpr rpe rsw ruv wh)) = 2 from by rw [hc]; rfl)).symm) hx hb hr hlocks (by rw [show (f_L_proposed_uo rpr rpe rsw rhe uo ruv wh) = uo from if_neg h1]; exact hP) hK (by rw [show (f_L_proposed_uo rpr rpe rsw rhe uo ruv wh) = uo from if_neg h1]; exact hD) hS dL_proposed_22
    · skip
      rw [hc] at hE
      subst hE
      refine vx_catch (name := exN 3) hown [⟨0, 12, 15, 13⟩, ⟨0, 12, 19, 15⟩] ⟨0, 12, 23, 25⟩ [] htab (List.forall_mem_cons.mpr ⟨Or.inr ⟨by decide, exN 1, hts _ wd_2_22, hG.2.2.1⟩, List.forall_mem_cons.mpr ⟨Or.inr ⟨by decide, exN 2, hts _ wd_2_23, hG.2.2.2⟩, fun _ h => nomatch h⟩⟩) rfl (by decide) (hts _ wd_2_132) (va_Nw.use rfl hG.1.2.1.2.2.2.2.2.2.1) hc1 hc2 hc3 ?_
      refine W.eq (g2 := F0 m 23 ls [.ref q9]) rfl ?_
      refine lv_astore (lv' := [(5, .ref q9), (0, .ref adB), (1, .int lp), (2, .int ruv), (3, .int wh), (4, .ref adU)]) hx hb dL_proposed_23 hl (by decide) rfl (fun ls hl => ?_)
      refine lv_iconst (v := 3) hx hb dL_proposed_25 (by decide) ?_
      refine W.widen (k := 3) (n := 18) (Nat.le_of_ble_eq_true rfl) (Nat.le_of_ble_eq_true rfl) ?_
      exact hh_reti hQ (((if_neg h1).trans (show (wr123 (f_X5_proposed_x rpr rpe rsw ruv wh)) = 3 from by rw [hc]; rfl)).symm) hx hb hr hlocks (by rw [show (f_L_proposed_uo rpr rpe rsw rhe uo ruv wh) = uo from if_neg h1]; exact hP) hK (by rw [show (f_L_proposed_uo rpr rpe rsw rhe uo ruv wh) = uo from if_neg h1]; exact hD) hS dL_proposed_26
  · skip
    refine lv_i2l hx hb dL_proposed_10 rfl ?_
    refine va_last hx hb hK hP hD hS 4 1 rfl rfl (i := (0 : Int32)) (ix_d (by decide)) dL_proposed_11 (fun H locs hP hD hS => ?_)
    have hP : va_P (dC, dI) vwCl [zX5 adB adA bs, zAL cO adA 3 lf, zX1 adL adc adp ads adr lmo lha lfo lma lst lou, zX3 adr rpr rpe rsw rce rhe rba rup rsa rri rse rgr rle, zAJ cJ adU 1 (vp_updL uo (0 : Int32).toNatClampNeg ((f_X5_proposed_r rpe rsw rhe ruv wh).toInt64))] H := hP
    have hD : va_D A [zX5 adB adA bs, zAL cO adA 3 lf, zX1 adL adc adp ads adr lmo lha lfo lma lst lou, zX3 adr rpr rpe rsw rce rhe rba rup rsa rri rse rgr rle, zAJ cJ adU 1 (vp_updL uo (0 : Int32).toNatClampNeg ((f_X5_proposed_r rpe rsw rhe ruv wh).toInt64))] := hD
    refine lv_goto (tgt := 27) hx hb dL_proposed_12 (by decide) ?_
    refine lv_iconst (v := 0) hx hb dL_proposed_27 (by decide) ?_
    exact hh_reti hQ ((if_pos h1).symm) hx hb hr hlocks (by rw [show (f_L_proposed_uo rpr rpe rsw rhe uo ruv wh) = (vp_updL uo (0 : Int32).toNatClampNeg ((f_X5_proposed_r rpe rsw rhe ruv wh).toInt64)) from if_pos h1]; exact hP) hK (by rw [show (f_L_proposed_uo rpr rpe rsw rhe uo ruv wh) = (vp_updL uo (0 : Int32).toNatClampNeg ((f_X5_proposed_r rpe rsw rhe ruv wh).toInt64)) from if_pos h1]; exact hD) hS dL_proposed_28
set_option maxHeartbeats 4000000 in
set_option maxRecDepth 100000 in
theorem c_L_proposed_o (l : Launch) (dC : Nat → ClassId) (dI : Nat → Nat → Nat) (cI cJ cZ cO : ClassId) (adB adA : Nat) (bs : Int32) (lf : Nat → Option Nat) (adU : Nat) (uo : Nat → Int64) (lp ruv wh : Int32) (sz : Nat) (hfl : l.stackTraces = false) (hlo : ¬ lp < (0 : Int32) → ¬ lp < (3 : Int32)) : Met l yL_proposed (Cond.codeWith yL_proposed cL_proposed 6 (some .int) [(0, 12, 15, 13), (0, 12, 19, 15), (0, 12, 23, 25)] :: wAll) ({ frames := 8, cells := 1, slots := 6, locals := 127 }) (va_Pc [.ref adB, .int lp, .int ruv, .int wh, .ref adU] (gP (dC, dI) [zX5 adB adA bs, zAL cO adA 3 lf, zAJ cJ adU 1 uo] (tyG cI cJ cZ cO) sz (gW (va_A [zX5 adB adA bs, zAL cO adA 3 lf, zAJ cJ adU 1 uo] sz)))) (va_Qi (fun r (_ : Unit) => r = (wr123 1)) (fun _ t => gB (dC, dI) (va_A [zX5 adB adA bs, zAL cO adA 3 lf, zAJ cJ adU 1 uo] sz) [zX5 adB adA bs, zAL cO adA 3 lf, zAJ cJ adU 1 uo] (tyG cI cJ cZ cO) t) (va_A [zX5 adB adA bs, zAL cO adA 3 lf, zAJ cJ adU 1 uo] sz)) 1 6 (va_A [zX5 adB adA bs, zAL cO adA 3 lf, zAJ cJ adU 1 uo] sz) := by
  refine va_MetW (cc := cL_proposed) (maxL := 6) (ret := (some .int)) (by decide) rfl ?_
  intro p e s m args below meth c s₁ B hml hv
  obtain ⟨rfl, hsz, hP, hK, hD0, hG⟩ := hv
  have hx := B.exec
  have hb := B.bytes
  have hr := B.returns
  have hts := ht_of B.pre
  have hown : s.vm.findClass RL = some m.cls := findClass_of_methodNamed B.named
  have hlocks := B.notSynchronized
  have htab := vx_table (x := yL_proposed) B (hts _ wd_4_15)
  subst hsz
  have hD := hD0.self (sz := s.heap.size)
  generalize hAe : va_A [zX5 adB adA bs, zAL cO adA 3 lf, zAJ cJ adU 1 uo] s.heap.size = A at hD hG ⊢
  have hA : ∀ q : Nat, s.heap.size ≤ q → A q := fun q h => by rw [← hAe]; exact Or.inr h
  have hS : va_S A s.heap s.heap [] := va_S.rf
  have hP : va_P (dC, dI) vwCl [zX5 adB adA bs, zAL cO adA 3 lf, zAJ cJ adU 1 uo] s.heap := hP
  have hl := lv_entry ([.ref adB, .int lp, .int ruv, .int wh, .ref adU]) (n := 6) (Nat.le_of_ble_eq_true rfl)
  rw [lg_entry_eq]
  generalize (lg_sl ([.ref adB, .int lp, .int ruv, .int wh, .ref adU]) ++ List.replicate (6 - (lg_sl ([.ref adB, .int lp, .int ruv, .int wh, .ref adU])).length) Slot.unset).toArray = ls at hl ⊢
  have hl : lv_has ls 6 [(0, .ref adB), (1, .int lp), (2, .int ruv), (3, .int wh), (4, .ref adU)] := hl
  refine hh_name (fun Q hQ => ?_)
  refine lv_aload hx hb dL_proposed_0 (lv_at hl 4 rfl) ?_
  refine lv_iconst (v := 0) hx hb dL_proposed_2 (by decide) ?_
  refine lv_aload_n hx hb dL_proposed_3 rfl (lv_at hl 0 rfl) ?_
  refine lv_iload_n hx hb dL_proposed_4 rfl (lv_at hl 1 rfl) ?_
  refine lv_iload_n hx hb dL_proposed_5 rfl (lv_at hl 2 rfl) ?_
  refine lv_iload_n hx hb dL_proposed_6 rfl (lv_at hl 3 rfl) ?_
  refine hh_xcalli (w2 := [zX5 adB adA bs, zAL cO adA 3 lf, zAJ cJ adU 1 uo]) (vx_runV (As := [.int lp, .int ruv, .int wh]) (rest := [.int (0 : Int32), .ref adU]) ⟨hx, hb, hml, hown, hts⟩ (c_X5_proposed_o l dC dI cI cJ cZ cO adB adA bs lf lp ruv wh _ hfl hlo) (cwV 3 hts (gd_V wd_4_16 wd_4_17 wd_4_18 wd_1_1 wd_4_19) rfl rfl rfl (by decide +kernel) ⟨Nat.le_of_ble_eq_true rfl, Nat.le_of_ble_eq_true rfl⟩) (hh_pV (ci := 5) (q := (RX5, TX5, 2)) (q0 := 0) rfl rfl (gT_c _) (gT_call hG.1 hS (va_free hD hS hA [0, 1] rfl)) hK hP hD [0, 1] rfl rfl) rfl rfl hl.1 rfl (lv_room (Nat.le_of_ble_eq_true rfl)) dL_proposed_7 ⟨Nat.le_of_ble_eq_true rfl, Nat.le_of_ble_eq_true rfl⟩) hP hD hS hA [0, 1] [2] [1, 2, 0] rfl rfl rfl (by decide) rfl rfl rfl (fun E ce q9 H locs h1 hE hP hD hS hc1 hc2 hc3 => ?_) (fun H locs h1 hP hD hS => ?_)
  · skip
    have hc : 1 = 1 := rfl
    rw [hc] at hE
    subst hE
    refine vx_catch (name := exN 1) hown [] ⟨0, 12, 15, 13⟩ [⟨0, 12, 19, 15⟩, ⟨0, 12, 23, 25⟩] htab (fun _ h => nomatch h) rfl (by decide) (hts _ wd_2_22) (va_Nw.use rfl hG.1.2.1.2.2.2.2.1) hc1 hc2 hc3 ?_
    refine W.eq (g2 := F0 m 15 ls [.ref q9]) rfl ?_
    refine lv_astore (lv' := [(5, .ref q9), (0, .ref adB), (1, .int lp), (2, .int ruv), (3, .int wh), (4, .ref adU)]) hx hb dL_proposed_15 hl (by decide) rfl (fun ls hl => ?_)
    refine lv_iconst (v := 1) hx hb dL_proposed_17 (by decide) ?_
    refine W.widen (k := 1) (n := 6) (Nat.le_of_ble_eq_true rfl) (Nat.le_of_ble_eq_true rfl) ?_
    exact hh_reti hQ (((show (wr123 1) = 1 from by rw [hc]; rfl)).symm) hx hb hr hlocks hP hK hD hS dL_proposed_18
  · skip
    exact absurd h1 (by decide)
