def lr_run (ns : Int32) : Int32 := if f_X5_requireWithin_x ns (1 : Int32) (200 : Int32) = 0 then 0 else 1
def lb_run (bs ns : Int32) : Int32 := if f_X5_requireWithin_x ns (1 : Int32) (200 : Int32) = 0 then bs + ns else bs
def lo_run (uo : Nat → Int64) (bs ns : Int32) : Nat → Int64 := if f_X5_requireWithin_x ns (1 : Int32) (200 : Int32) = 0 then vp_updL uo (0 : Int32).toNatClampNeg (bs + ns).toInt64 else uo
def lu_run (T : LT × LT × LT) (ns : Int32) : LT × LT × LT := if f_X5_requireWithin_x ns (1 : Int32) (200 : Int32) = 0 then iterC ns.toNatClampNeg T else T
set_option maxHeartbeats 4000000 in
set_option maxRecDepth 100000 in
theorem c_L_run (l : Launch) (dC : Nat → ClassId) (dI : Nat → Nat → Nat) (cI cJ cZ cO : ClassId) (adB adA : Nat) (bs : Int32) (lf : Nat → Option Nat) (a : AT × AT × AT) (T : LT × LT × LT) (adU : Nat) (uo : Nat → Int64) (ns : Int32) (sz : Nat) (hfl : l.stackTraces = false) (hlf_0 : lf (0 : Int32).toNatClampNeg = some (ya_adL a.1)) (hlf_1 : lf (1 : Int32).toNatClampNeg = some (ya_adL a.2.1)) (hlf_2 : lf (2 : Int32).toNatClampNeg = some (ya_adL a.2.2)) (hI : ∀ i : Nat, i < ns.toNatClampNeg → ns.toNatClampNeg ≤ 200 → IvC (iterC i T)) : Met l yL_run (Cond.codeWith yL_run cL_run 4 (some .int) [(0, 9, 12, 15)] :: wAll) ({ frames := 9, cells := 1, slots := 6, locals := 182 }) (va_Pc [.ref adB, .int ns, .ref adU] (gP (dC, dI) (zAJ cJ adU 1 uo :: (wC cI cJ cO adB adA lf bs a T)) (tyG cI cJ cZ cO) sz (gW (va_A (zAJ cJ adU 1 uo :: (wC cI cJ cO adB adA lf bs a T)) sz)))) (va_Qi (fun r (_ : Unit) => r = lr_run ns) (fun _ t => gB (dC, dI) (va_A (zAJ cJ adU 1 uo :: (wC cI cJ cO adB adA lf bs a T)) sz) (zAJ cJ adU 1 (lo_run uo bs ns) :: (wC cI cJ cO adB adA lf (lb_run bs ns) a (lu_run T ns))) (tyG cI cJ cZ cO) t) (va_A (zAJ cJ adU 1 uo :: (wC cI cJ cO adB adA lf bs a T)) sz)) 1 6 (va_A (zAJ cJ adU 1 uo :: (wC cI cJ cO adB adA lf bs a T)) sz) := by
  refine va_MetW (cc := cL_run) (maxL := 4) (ret := (some .int)) (by decide) rfl ?_
  intro p e s m args below meth c s₁ B hml hv
  obtain ⟨rfl, hsz, hP, hK, hD0, hG⟩ := hv
  have hx := B.exec
  have hb := B.bytes
  have hr := B.returns
  have hts := ht_of B.pre
  have hown : s.vm.findClass RL = some m.cls := findClass_of_methodNamed B.named
  have hlocks := B.notSynchronized
  have htab := vx_table (x := yL_run) B (hts _ wd_3_19)
  subst hsz
  have hD := hD0.self (sz := s.heap.size)
  generalize hAe : va_A (zAJ cJ adU 1 uo :: (wC cI cJ cO adB adA lf bs a T)) s.heap.size = A at hD hG ⊢
  have hA : ∀ q : Nat, s.heap.size ≤ q → A q := fun q h => by rw [← hAe]; exact Or.inr h
  have hS : va_S A s.heap s.heap [] := va_S.rf
  have hl := lv_entry ([.ref adB, .int ns, .ref adU]) (n := 4) (Nat.le_of_ble_eq_true rfl)
  rw [lg_entry_eq]
  generalize (lg_sl ([.ref adB, .int ns, .ref adU]) ++ List.replicate (4 - (lg_sl ([.ref adB, .int ns, .ref adU])).length) Slot.unset).toArray = ls at hl ⊢
  have hl : lv_has ls 4 [(0, .ref adB), (1, .int ns), (2, .ref adU)] := hl
  refine hh_name (fun Q hQ => ?_)
  refine lv_aload_n hx hb dL_run_0 rfl (lv_at hl 2 rfl) ?_
  refine lv_iconst (v := 0) hx hb dL_run_1 (by decide) ?_
  refine lv_aload_n hx hb dL_run_2 rfl (lv_at hl 0 rfl) ?_
  refine lv_iload_n hx hb dL_run_3 rfl (lv_at hl 1 rfl) ?_
  refine hh_xcalli (w2 := (zAJ cJ adU 1 uo :: (wC cI cJ cO adB adA lf (bs + ns) a (iterC ns.toNatClampNeg T)))) (vx_runV (As := [.int ns]) (rest := [.int (0 : Int32), .ref adU]) ⟨hx, hb, hml, hown, hts⟩ (c_X5_run l dC dI cI cJ cZ cO adB adA bs lf a T ns _ hfl hlf_0 hlf_1 hlf_2 hI) (cwV 1 hts (gd_V wd_3_20 wd_3_21 wd_3_22 wd_1_1 wd_3_23) rfl rfl rfl (by decide +kernel) ⟨Nat.le_of_ble_eq_true rfl, Nat.le_of_ble_eq_true rfl⟩) (hh_pV (ci := 5) (q := (RX5, TX5, 2)) (q0 := 1) rfl rfl (gT_c _) (gT_call hG.1 hS (va_free hD hS hA [1, 2, 3, 4, 5, 6, 7, 8, 9, 10, 11, 12, 13, 14, 15, 16, 17, 18, 19, 20, 21, 22, 23, 24, 25, 26, 27, 28, 29, 30, 31, 32] rfl)) hK hP hD [1, 2, 3, 4, 5, 6, 7, 8, 9, 10, 11, 12, 13, 14, 15, 16, 17, 18, 19, 20, 21, 22, 23, 24, 25, 26, 27, 28, 29, 30, 31, 32] rfl rfl) rfl rfl hl.1 rfl (lv_room (Nat.le_of_ble_eq_true rfl)) dL_run_4 ⟨Nat.le_of_ble_eq_true rfl, Nat.le_of_ble_eq_true rfl⟩) hP hD hS hA [1, 2, 3, 4, 5, 6, 7, 8, 9, 10, 11, 12, 13, 14, 15, 16, 17, 18, 19, 20, 21, 22, 23, 24, 25, 26, 27, 28, 29, 30, 31, 32] [0] [0, 1, 2, 3, 4, 5, 6, 7, 8, 9, 10, 11, 12, 13, 14, 15, 16, 17, 18, 19, 20, 21, 22, 23, 24, 25, 26, 27, 28, 29, 30, 31, 32] rfl rfl rfl (by decide) rfl rfl rfl (fun E ce q9 H locs h1 hE hP hD hS hc1 hc2 hc3 => ?_) (fun H locs h1 hP hD hS => ?_)
  · rcases bd_requireWithin ns (1 : Int32) (200 : Int32) with hc | hc
    · exact absurd hc h1
    rw [hc] at hE
    subst hE
    refine vx_catch (name := exN 2) hown [] ⟨0, 9, 12, 15⟩ [] htab (fun _ h => nomatch h) rfl (by decide) (hts _ wd_2_23) (va_Nw.use rfl hG.1.2.1.2.2.2.2.2.1) hc1 hc2 hc3 ?_
    refine W.eq (g2 := F0 m 12 ls [.ref q9]) rfl ?_
    refine lv_astore_n (lv' := [(3, .ref q9), (0, .ref adB), (1, .int ns), (2, .ref adU)]) hx hb dL_run_12 rfl hl (by decide) rfl (fun ls hl => ?_)
    refine lv_iconst (v := 1) hx hb dL_run_13 (by decide) ?_
    refine W.widen (k := 1) (n := 6) (Nat.le_of_ble_eq_true rfl) (Nat.le_of_ble_eq_true rfl) ?_
    exact hh_reti hQ (show (1 : Int32) = lr_run ns from (if_neg h1).symm) hx hb hr hlocks (show va_P (dC, dI) vwCl (zAJ cJ adU 1 (lo_run uo bs ns) :: (wC cI cJ cO adB adA lf (lb_run bs ns) a (lu_run T ns))) H from by rw [show lo_run uo bs ns = uo from if_neg h1, show lb_run bs ns = bs from if_neg h1, show lu_run T ns = T from if_neg h1]; exact  hP) hK (show va_D A (zAJ cJ adU 1 (lo_run uo bs ns) :: (wC cI cJ cO adB adA lf (lb_run bs ns) a (lu_run T ns))) from by rw [show lo_run uo bs ns = uo from if_neg h1, show lb_run bs ns = bs from if_neg h1, show lu_run T ns = T from if_neg h1]; exact  hD) hS dL_run_14
  · refine lv_i2l hx hb dL_run_7 rfl ?_
    refine va_last hx hb hK hP hD hS 0 1 rfl rfl (i := (0 : Int32)) (ix_d (by decide)) dL_run_8 (fun H locs hP hD hS => ?_)
    refine lv_goto (tgt := 15) hx hb dL_run_9 (by decide) ?_
    refine lv_iconst (v := 0) hx hb dL_run_15 (by decide) ?_
    refine W.widen (k := 1) (n := 6) (Nat.le_of_ble_eq_true rfl) (Nat.le_of_ble_eq_true rfl) ?_
    exact hh_reti hQ (show (0 : Int32) = lr_run ns from (if_pos h1).symm) hx hb hr hlocks (show va_P (dC, dI) vwCl (zAJ cJ adU 1 (lo_run uo bs ns) :: (wC cI cJ cO adB adA lf (lb_run bs ns) a (lu_run T ns))) H from by rw [show lo_run uo bs ns = vp_updL uo (0 : Int32).toNatClampNeg (bs + ns).toInt64 from if_pos h1, show lb_run bs ns = bs + ns from if_pos h1, show lu_run T ns = iterC ns.toNatClampNeg T from if_pos h1]; exact  hP) hK (show va_D A (zAJ cJ adU 1 (lo_run uo bs ns) :: (wC cI cJ cO adB adA lf (lb_run bs ns) a (lu_run T ns))) from by rw [show lo_run uo bs ns = vp_updL uo (0 : Int32).toNatClampNeg (bs + ns).toInt64 from if_pos h1, show lb_run bs ns = bs + ns from if_pos h1, show lu_run T ns = iterC ns.toNatClampNeg T from if_pos h1]; exact  hD) hS dL_run_16
