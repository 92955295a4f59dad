section LL
variable {p : Program} {l : Launch} {e : Env} {s : State} {m : MethodId} {below : List Frame} {meth : Method} {c : Code} {b L : Nat} {xs : Nat → Int32} {dC : Nat → ClassId} {dI : Nat → Nat → Nat} {cI cJ cZ cO : ClassId} {adU adB adA : Nat} {lf : Nat → Option Nat} {a : AT × AT × AT} {am : QT} {bs : Int32} {uo : Nat → Int64} {T : LT × LT × LT} {M : MT} {H : Heap} {locs : List Loc} {cells slots i : Nat} {ls : Array Slot} {Q : State → Prop}
theorem lw_arith {L i : Nat} (hL : L ≤ 3072) (hi : i ≤ L) : (Int32.ofNat L - 6 < nI i → L < i + 6) ∧ (¬ Int32.ofNat L - 6 < nI i → i + 6 ≤ L) := by
  have e : (Int32.ofNat L - 6).toInt = (L : Int) - 6 := by
    have e1 : (Int32.ofNat L).toInt = (L : Int) := nI_toInt (n := L) (by omega)
    have e6 : (6 : Int32).toInt = 6 := rfl
    rw [fb_subI (by omega) (by omega), e1, e6]
  rw [fa_lt, e, nI_toInt (by omega)]
  omega
set_option maxHeartbeats 4000000 in
theorem law_loop (K : KX p l s m meth c b L xs (dC, dI) cI cJ cZ cO lf a) {cb sb : Nat} (hcb : cb ≤ 1000) (hsb : sb ≤ 10000) : ∀ (n j : Nat), L < 6 * j + 6 * n + 6 → 6 * j ≤ L → ∀ (uo : Nat → Int64) (bs : Int32) (T : LT × LT × LT) (M : MT) (H : Heap) (locs : List Loc) (ls : Array Slot), Rel T bs M → va_P (dC, dI) vwCl (wG cI cJ cO adU uo adB adA lf bs a T (wM cI cJ cZ am M)) H → va_D (fun q => s.heap.size ≤ q) (wG cI cJ cO adU uo adB adA lf bs a T (wM cI cJ cZ am M)) → va_S (fun q => s.heap.size ≤ q) s.heap H locs → lv_has ls 8 [(4, .int (nI (6 * j))), (0, .ref b), (1, .ref adB), (2, .ref (yq_adM am)), (3, .ref adU)] → W p l e room_1 s m #[Value.ref b] below meth c H locs (cb + 8 * j) (sb + 64 * j) (lw_Z below #[Value.ref b] s) (F0 m 23 ls []) := by
  obtain ⟨hx, hb, hr, hml, hown, hts, hX, hbl, hlocks, hG, hfl, hK, hf0, hf1, hf2, hL⟩ := id K
  have hA : ∀ q : Nat, s.heap.size ≤ q → (fun q => s.heap.size ≤ q) q := fun _ h => h
  have hbA : ¬ (fun q => s.heap.size ≤ q) b := Nat.not_le.mpr hbl
  intro n
  induction n with
  | zero =>
    intro j hn hj uo bs T M H locs ls hR hP hD hS hl
    refine lv_iload hx hb dL_law_23 (lv_at hl 0 rfl) ?_
    refine lv_aload_n hx hb dL_law_25 rfl (lv_at hl 1 rfl) ?_
    refine va_slen hx hb hX hbl hbA hS dL_law_26 ?_
    refine lv_bipush (v := 6) hx hb dL_law_27 rfl ?_
    refine lv_isub hx hb dL_law_29 ?_
    refine lv_icmp_gt (tgt := 1887) hx hb dL_law_30 (by decide) (fun c1 => ?_) (fun c1 => absurd ((lw_arith hL hj).2 c1) (by omega))
    refine lv_iconst (v := 1) hx hb dL_law_1887 (by decide) ?_
    refine va_forget (fun q hq => hS.2.2 q hq) ?_
    refine W.widen (k := 650651) (n := 7144151) (by omega) (by omega) ?_
    exact lw_ret hx hb hr hlocks dL_law_1888
  | succ n ih =>
    intro j hn hj uo bs T M H locs ls hR hP hD hS hl
    have TAIL : ∀ (uo : Nat → Int64) (bs : Int32) (T : LT × LT × LT) (M : MT) (H : Heap) (locs : List Loc) (ls : Array Slot), 6 * j + 6 ≤ L → Rel T bs M → va_P (dC, dI) vwCl (wG cI cJ cO adU uo adB adA lf bs a T (wM cI cJ cZ am M)) H → va_D (fun q => s.heap.size ≤ q) (wG cI cJ cO adU uo adB adA lf bs a T (wM cI cJ cZ am M)) → va_S (fun q => s.heap.size ≤ q) s.heap H locs → lv_has ls 8 [(4, .int (nI (6 * j))), (0, .ref b), (1, .ref adB), (2, .ref (yq_adM am)), (3, .ref adU)] → W p l e room_1 s m #[Value.ref b] below meth c H locs (cb + 8 * j + 8) (sb + 64 * j + 64) (lw_Z below #[Value.ref b] s) (F0 m 1881 ls []) := by
      intro uo bs T M H locs ls hi hR hP hD hS hl
      refine lv_iinc (v := nI (6 * (j + 1))) (lv' := [(4, .int (nI (6 * (j + 1)))), (0, .ref b), (1, .ref adB), (2, .ref (yq_adM am)), (3, .ref adU)]) hx hb dL_law_1881 hl (k := 0) rfl (nI_add (6 * j) 6) (by decide) rfl (fun ls hl => ?_)
      refine lv_goto (tgt := 23) hx hb dL_law_1884 (by decide) ?_
      exact ih (j + 1) (by omega) (by omega) uo bs T M H locs ls hR hP hD hS hl
    refine lv_iload hx hb dL_law_23 (lv_at hl 0 rfl) ?_
    refine lv_aload_n hx hb dL_law_25 rfl (lv_at hl 1 rfl) ?_
    refine va_slen hx hb hX hbl hbA hS dL_law_26 ?_
    refine lv_bipush (v := 6) hx hb dL_law_27 rfl ?_
    refine lv_isub hx hb dL_law_29 ?_
    refine lv_icmp_gt (tgt := 1887) hx hb dL_law_30 (by decide) (fun c1 => ?_) (fun c1 => ?_)
    · refine lv_iconst (v := 1) hx hb dL_law_1887 (by decide) ?_
      refine va_forget (fun q hq => hS.2.2 q hq) ?_
      refine W.widen (k := 650651) (n := 7144151) (by omega) (by omega) ?_
      exact lw_ret hx hb hr hlocks dL_law_1888
    · have hi := (lw_arith hL hj).2 c1
      refine lv_aload_n hx hb dL_law_33 rfl (lv_at hl 1 rfl) ?_
      refine lv_iload hx hb dL_law_34 (lv_at hl 0 rfl) ?_
      refine va_sld hx hb hX hbl hbA hS (vp_in_nI (by omega) (by omega)) dL_law_36 ?_
      refine lv_bipush (v := 31) hx hb dL_law_37 rfl ?_
      refine lv_iand hx hb dL_law_39 ?_
      obtain ⟨v, hv, ev⟩ := pk_andE (xs (nI (6 * j)).toNatClampNeg) (m := 31) 5 (by decide)
      rw [ev]
      have KK : ∀ (uo : Nat → Int64) (bs : Int32) (T : LT × LT × LT) (M : MT) (H : Heap) (locs : List Loc) (ls : Array Slot), Rel T bs M → va_P (dC, dI) vwCl (wG cI cJ cO adU uo adB adA lf bs a T (wM cI cJ cZ am M)) H → va_D (fun q => s.heap.size ≤ q) (wG cI cJ cO adU uo adB adA lf bs a T (wM cI cJ cZ am M)) → va_S (fun q => s.heap.size ≤ q) s.heap H locs → lv_has ls 8 [(4, .int (nI (6 * j))), (0, .ref b), (1, .ref adB), (2, .ref (yq_adM am)), (3, .ref adU)] → W p l e room_1 s m #[Value.ref b] below meth c H locs (cb + 8 * j + 8) (sb + 64 * j + 64) (lw_Z below #[Value.ref b] s) (F0 m 1881 ls []) := fun uo bs T M H locs ls => TAIL uo bs T M H locs ls hi
      have h1c : cb + 8 * j + 8 ≤ 650651 := by omega
      have h1s : sb + 64 * j + 64 ≤ 7144151 := by omega
      rcases (show v = 0 ∨ v = 1 ∨ v = 2 ∨ v = 3 ∨ v = 4 ∨ v = 5 ∨ v = 6 ∨ v = 7 ∨ v = 8 ∨ v = 9 ∨ v = 10 ∨ v = 11 ∨ v = 12 ∨ v = 13 ∨ v = 14 ∨ v = 15 ∨ v = 16 ∨ v = 17 ∨ v = 18 ∨ v = 19 ∨ v = 20 ∨ v = 21 ∨ v = 22 ∨ v = 23 ∨ v = 24 ∨ v = 25 ∨ 26 ≤ v by omega) with rfl | rfl | rfl | rfl | rfl | rfl | rfl | rfl | rfl | rfl | rfl | rfl | rfl | rfl | rfl | rfl | rfl | rfl | rfl | rfl | rfl | rfl | rfl | rfl | rfl | rfl | h26
      · refine lv_tableIn (off := 120) (tgt := 160) hx hb dL_law_40 (by decide) (by decide) rfl (by decide) ?_
        exact k_setPlant K hR hi h1c h1s hP hD hS hl KK
      · refine lv_tableIn (off := 204) (tgt := 244) hx hb dL_law_40 (by decide) (by decide) rfl (by decide) ?_
        exact k_setLoad K hR hi h1c h1s hP hD hS hl KK
      · refine lv_tableIn (off := 272) (tgt := 312) hx hb dL_law_40 (by decide) (by decide) rfl (by decide) ?_
        exact k_setGains K hR hi h1c h1s hP hD hS hl KK
      · refine lv_tableIn (off := 364) (tgt := 404) hx hb dL_law_40 (by decide) (by decide) rfl (by decide) ?_
        exact k_addPoint K hR hi h1c h1s hP hD hS hl KK
      · refine lv_tableIn (off := 468) (tgt := 508) hx hb dL_law_40 (by decide) (by decide) rfl (by decide) ?_
        exact k_setLimits K hR hi h1c h1s hP hD hS hl KK
      · refine lv_tableIn (off := 528) (tgt := 568) hx hb dL_law_40 (by decide) (by decide) rfl (by decide) ?_
        exact k_setGuard K hR hi h1c h1s hP hD hS hl KK
      · refine lv_tableIn (off := 608) (tgt := 648) hx hb dL_law_40 (by decide) (by decide) rfl (by decide) ?_
        exact k_setSetpoint K hR hi h1c h1s hP hD hS hl KK
      · refine lv_tableIn (off := 676) (tgt := 716) hx hb dL_law_40 (by decide) (by decide) rfl (by decide) ?_
        exact k_setHand K hR hi h1c h1s hP hD hS hl KK
      · refine lv_tableIn (off := 744) (tgt := 784) hx hb dL_law_40 (by decide) (by decide) rfl (by decide) ?_
        exact k_setTies K hR hi h1c h1s hP hD hS hl KK
      · refine lv_tableIn (off := 836) (tgt := 876) hx hb dL_law_40 (by decide) (by decide) rfl (by decide) ?_
        exact k_setMode K hR hi h1c h1s hP hD hS hl KK
      · refine lv_tableIn (off := 904) (tgt := 944) hx hb dL_law_40 (by decide) (by decide) rfl (by decide) ?_
        exact k_run K hR hi h1c h1s hP hD hS hl KK
      · refine lv_tableIn (off := 960) (tgt := 1000) hx hb dL_law_40 (by decide) (by decide) rfl (by decide) ?_
        exact k_measure K hR hi h1c h1s hP hD hS hl KK
      · refine lv_tableIn (off := 1015) (tgt := 1055) hx hb dL_law_40 (by decide) (by decide) rfl (by decide) ?_
        exact k_output K hR hi h1c h1s hP hD hS hl KK
      · refine lv_tableIn (off := 1070) (tgt := 1110) hx hb dL_law_40 (by decide) (by decide) rfl (by decide) ?_
        exact k_outputByIncrements K hR hi h1c h1s hP hD hS hl KK
      · refine lv_tableIn (off := 1125) (tgt := 1165) hx hb dL_law_40 (by decide) (by decide) rfl (by decide) ?_
        exact k_setpoint K hR hi h1c h1s hP hD hS hl KK
      · refine lv_tableIn (off := 1180) (tgt := 1220) hx hb dL_law_40 (by decide) (by decide) rfl (by decide) ?_
        exact k_integral K hR hi h1c h1s hP hD hS hl KK
      · refine lv_tableIn (off := 1235) (tgt := 1275) hx hb dL_law_40 (by decide) (by decide) rfl (by decide) ?_
        exact k_gain K hR hi h1c h1s hP hD hS hl KK
      · refine lv_tableIn (off := 1303) (tgt := 1343) hx hb dL_law_40 (by decide) (by decide) rfl (by decide) ?_
        exact k_mode K hR hi h1c h1s hP hD hS hl KK
      · refine lv_tableIn (off := 1359) (tgt := 1399) hx hb dL_law_40 (by decide) (by decide) rfl (by decide) ?_
        exact k_wasStarved K hR hi h1c h1s hP hD hS hl KK
      · refine lv_tableIn (off := 1422) (tgt := 1462) hx hb dL_law_40 (by decide) (by decide) rfl (by decide) ?_
        exact k_held K hR hi h1c h1s hP hD hS hl KK
      · refine lv_tableIn (off := 1478) (tgt := 1518) hx hb dL_law_40 (by decide) (by decide) rfl (by decide) ?_
        exact k_startRelay K hR hi h1c h1s hP hD hS hl KK
      · refine lv_tableIn (off := 1538) (tgt := 1578) hx hb dL_law_40 (by decide) (by decide) rfl (by decide) ?_
        exact k_experiment K hR hi h1c h1s hP hD hS hl KK
      · refine lv_tableIn (off := 1594) (tgt := 1634) hx hb dL_law_40 (by decide) (by decide) rfl (by decide) ?_
        exact k_period K hR hi h1c h1s hP hD hS hl KK
      · refine lv_tableIn (off := 1650) (tgt := 1690) hx hb dL_law_40 (by decide) (by decide) rfl (by decide) ?_
        exact k_swing K hR hi h1c h1s hP hD hS hl KK
      · refine lv_tableIn (off := 1705) (tgt := 1745) hx hb dL_law_40 (by decide) (by decide) rfl (by decide) ?_
        exact k_ultimateGain K hR hi h1c h1s hP hD hS hl KK
      · refine lv_tableIn (off := 1761) (tgt := 1801) hx hb dL_law_40 (by decide) (by decide) rfl (by decide) ?_
        exact k_proposed K hR hi h1c h1s hP hD hS hl KK
      · have e26 : (nI v).toInt = (v : Int) := nI_toInt (by omega)
        refine lv_tableOut (tgt := 1881) hx hb dL_law_40 (Or.inr (by rw [e26]; omega)) (by decide) ?_
        refine W.widen (k := cb + 8 * j + 8) (n := sb + 64 * j + 64) (by omega) (by omega) ?_
        exact KK uo bs T M H locs ls hR hP hD hS hl
end LL
