section KO
variable {p : Program} {l : Launch} {e : Env} {s : State} {m : MethodId} {below : List Frame} {meth : Method} {c : Code} {b L : Nat} {xs : Nat → Int32} {dC : Nat → ClassId} {dI : Nat → Nat → Nat} {cI cJ cZ cO : ClassId} {adU adB adA : Nat} {lf : Nat → Option Nat} {a : AT × AT × AT} {am : QT} {bs : Int32} {uo : Nat → Int64} {T : LT × LT × LT} {M : MT} {H : Heap} {locs : List Loc} {cells slots i : Nat} {ls : Array Slot} {Q : State → Prop}
set_option maxHeartbeats 4000000 in
theorem k_wasStarved (K : KX p l s m meth c b L xs (dC, dI) cI cJ cZ cO lf a) (hR : Rel T bs M) (hi : i + 6 ≤ L) (hc : cells + 8 ≤ 650651) (hs : slots + 64 ≤ 7144151) (hP : va_P (dC, dI) vwCl (wG cI cJ cO adU uo adB adA lf bs a T (wM cI cJ cZ am M)) H) (hD : va_D (fun q => s.heap.size ≤ q) (wG cI cJ cO adU uo adB adA lf bs a T (wM cI cJ cZ am M))) (hS : va_S (fun q => s.heap.size ≤ q) s.heap H locs) (hl : lv_has ls 8 [(4, .int (nI i)), (0, .ref b), (1, .ref adB), (2, .ref (yq_adM am)), (3, .ref adU)])
    (kk : ∀ (uo : Nat → Int64) (bs : Int32) (T : LT × LT × LT) (M : MT) (H : Heap) (locs : List Loc) (ls : Array Slot), Rel T bs M → va_P (dC, dI) vwCl (wG cI cJ cO adU uo adB adA lf bs a T (wM cI cJ cZ am M)) H → va_D (fun q => s.heap.size ≤ q) (wG cI cJ cO adU uo adB adA lf bs a T (wM cI cJ cZ am M)) → va_S (fun q => s.heap.size ≤ q) s.heap H locs → lv_has ls 8 [(4, .int (nI i)), (0, .ref b), (1, .ref adB), (2, .ref (yq_adM am)), (3, .ref adU)] → W p l e room_1 s m #[Value.ref b] below meth c H locs (cells + 8) (slots + 64) Q (F0 m 1881 ls [])) : W p l e room_1 s m #[Value.ref b] below meth c H locs cells slots Q (F0 m 1399 ls []) := by
  obtain ⟨hx, hb, hr, hml, hown, hts, hX, hbl, hlocks, hG, hfl, hK, hf0, hf1, hf2, hL⟩ := id K
  have hA : ∀ q : Nat, s.heap.size ≤ q → (fun q => s.heap.size ≤ q) q := fun _ h => h
  have hbA : ¬ (fun q => s.heap.size ≤ q) b := Nat.not_le.mpr hbl
  obtain ⟨r1, r2, r3⟩ := rel_wasStarved hR (xs (nI i + 1).toNatClampNeg) uo
  refine lv_aload_n hx hb dL_law_1399 rfl (lv_at hl 2 rfl) ?_
  refine lv_aload_n hx hb dL_law_1400 rfl (lv_at hl 1 rfl) ?_
  refine lv_iload hx hb dL_law_1401 (lv_at hl 0 rfl) ?_
  refine lv_iconst (v := 1) hx hb dL_law_1403 (by decide) ?_
  refine lv_iadd hx hb dL_law_1404 ?_
  refine va_sld hx hb hX hbl hbA hS (lw_in (j := 1) (by decide) hi hL) dL_law_1405 ?_
  refine lv_aload_n hx hb dL_law_1406 rfl (lv_at hl 4 rfl) ?_
  refine s_wasStarved K (xs (nI i + 1).toNatClampNeg) (rel_hzs hR).1 (rel_hzs hR).2.1 (rel_hzs hR).2.2 hc hs hP hD hS hl.1 dL_law_1407 (fun H locs hP hD hS => ?_)
  refine lv_istore (lv' := [(5, .int (ofL T (xs (nI i + 1).toNatClampNeg) (fun s => lr_wasStarved s ) 1)), (4, .int (nI i)), (0, .ref b), (1, .ref adB), (2, .ref (yq_adM am)), (3, .ref adU)]) hx hb dL_law_1410 hl (by decide) rfl (fun ls hl => ?_)
  refine lv_aload_n hx hb dL_law_1412 rfl (lv_at hl 4 rfl) ?_
  refine lv_aload_n hx hb dL_law_1413 rfl (lv_at hl 2 rfl) ?_
  refine lv_iload hx hb dL_law_1414 (lv_at hl 1 rfl) ?_
  refine lv_iconst (v := 1) hx hb dL_law_1416 (by decide) ?_
  refine lv_iadd hx hb dL_law_1417 ?_
  refine va_sld hx hb hX hbl hbA hS (lw_in (j := 1) (by decide) hi hL) dL_law_1418 ?_
  have hp : (wG cI cJ cO adU (ofL T (xs (nI i + 1).toNatClampNeg) (fun s => lo_wasStarved s uo ) uo) adB adA lf bs a (onL T (xs (nI i + 1).toNatClampNeg) (fun s => lu_wasStarved s )) (wM cI cJ cZ am M)).Perm (([zX5 adB adA bs, zAL cO adA 3 lf, zAJ cJ adU 1 (ofL T (xs (nI i + 1).toNatClampNeg) (fun s => lo_wasStarved s uo ) uo)] ++ (wL cI cJ a.1 (onL T (xs (nI i + 1).toNatClampNeg) (fun s => lu_wasStarved s )).1 ++ (wL cI cJ a.2.1 (onL T (xs (nI i + 1).toNatClampNeg) (fun s => lu_wasStarved s )).2.1 ++ wL cI cJ a.2.2 (onL T (xs (nI i + 1).toNatClampNeg) (fun s => lu_wasStarved s )).2.2))) ++ (wM cI cJ cZ am M)) := pe_m _ _ _ _ _
  refine lw_Ri2 (w1 := (wG cI cJ cO adU (ofL T (xs (nI i + 1).toNatClampNeg) (fun s => lo_wasStarved s uo ) uo) adB adA lf bs a (onL T (xs (nI i + 1).toNatClampNeg) (fun s => lu_wasStarved s )) (wM cI cJ cZ am (um_wasStarved M (xs (nI i + 1).toNatClampNeg))))) (wl := ([zX5 adB adA bs, zAL cO adA 3 lf, zAJ cJ adU 1 (ofL T (xs (nI i + 1).toNatClampNeg) (fun s => lo_wasStarved s uo ) uo)] ++ (wL cI cJ a.1 (onL T (xs (nI i + 1).toNatClampNeg) (fun s => lu_wasStarved s )).1 ++ (wL cI cJ a.2.1 (onL T (xs (nI i + 1).toNatClampNeg) (fun s => lu_wasStarved s )).2.1 ++ wL cI cJ a.2.2 (onL T (xs (nI i + 1).toNatClampNeg) (fun s => lu_wasStarved s )).2.2)))) (wr := (wM cI cJ cZ am M)) (wq := (wM cI cJ cZ am (um_wasStarved M (xs (nI i + 1).toNatClampNeg)))) (rv := (rm_wasStarved M (xs (nI i + 1).toNatClampNeg))) (rest := []) (va_runV (As := [.int (xs (nI i + 1).toNatClampNeg)]) (rest := []) ⟨hx, hb, hml, hown, hts⟩ (d_X6_wasStarved l dC dI cI cJ cZ cO am M (xs (nI i + 1).toNatClampNeg) _ ) (cwV 1 hts (gd_V wd_5_93 wd_5_94 wd_5_95 wd_1_7 wd_5_96) rfl rfl rfl (by decide +kernel) ⟨Nat.le_of_ble_eq_true rfl, Nat.le_of_ble_eq_true rfl⟩) (lw_Rq (ci := 6) (q := (RX6, TX6, 42)) (q0 := 0) rfl rfl gU_c (fun _ _ _ => trivial) hK hp hP hD) rfl rfl hl.1 rfl (lv_room (Nat.le_of_ble_eq_true rfl)) dL_law_1419 ⟨by show cells + 8 + 0 ≤ 650651; omega, by show slots + 64 + 0 ≤ 7144151; omega⟩) hp (pe_m _ _ _ _ _) hP hD hS hA (fun H locs hP hD hS => ?_)
  refine lv_istore (lv' := [(6, .int (rm_wasStarved M (xs (nI i + 1).toNatClampNeg))), (5, .int (ofL T (xs (nI i + 1).toNatClampNeg) (fun s => lr_wasStarved s ) 1)), (4, .int (nI i)), (0, .ref b), (1, .ref adB), (2, .ref (yq_adM am)), (3, .ref adU)]) hx hb dL_law_1422 hl (by decide) rfl (fun ls hl => ?_)
  refine lv_aload_n hx hb dL_law_1424 rfl (lv_at hl 5 rfl) ?_
  have hp : (wG cI cJ cO adU (ofL T (xs (nI i + 1).toNatClampNeg) (fun s => lo_wasStarved s uo ) uo) adB adA lf bs a (onL T (xs (nI i + 1).toNatClampNeg) (fun s => lu_wasStarved s )) (wM cI cJ cZ am (um_wasStarved M (xs (nI i + 1).toNatClampNeg)))).Perm (([zX5 adB adA bs, zAL cO adA 3 lf, zAJ cJ adU 1 (ofL T (xs (nI i + 1).toNatClampNeg) (fun s => lo_wasStarved s uo ) uo)] ++ (wL cI cJ a.1 (onL T (xs (nI i + 1).toNatClampNeg) (fun s => lu_wasStarved s )).1 ++ (wL cI cJ a.2.1 (onL T (xs (nI i + 1).toNatClampNeg) (fun s => lu_wasStarved s )).2.1 ++ wL cI cJ a.2.2 (onL T (xs (nI i + 1).toNatClampNeg) (fun s => lu_wasStarved s )).2.2))) ++ (wM cI cJ cZ am (um_wasStarved M (xs (nI i + 1).toNatClampNeg)))) := pe_m _ _ _ _ _
  refine lw_Ri2 (w1 := (wG cI cJ cO adU (ofL T (xs (nI i + 1).toNatClampNeg) (fun s => lo_wasStarved s uo ) uo) adB adA lf bs a (onL T (xs (nI i + 1).toNatClampNeg) (fun s => lu_wasStarved s )) (wM cI cJ cZ am (um_wasStarved M (xs (nI i + 1).toNatClampNeg))))) (wl := ([zX5 adB adA bs, zAL cO adA 3 lf, zAJ cJ adU 1 (ofL T (xs (nI i + 1).toNatClampNeg) (fun s => lo_wasStarved s uo ) uo)] ++ (wL cI cJ a.1 (onL T (xs (nI i + 1).toNatClampNeg) (fun s => lu_wasStarved s )).1 ++ (wL cI cJ a.2.1 (onL T (xs (nI i + 1).toNatClampNeg) (fun s => lu_wasStarved s )).2.1 ++ wL cI cJ a.2.2 (onL T (xs (nI i + 1).toNatClampNeg) (fun s => lu_wasStarved s )).2.2)))) (wr := (wM cI cJ cZ am (um_wasStarved M (xs (nI i + 1).toNatClampNeg)))) (wq := (wM cI cJ cZ am (um_thrown (um_wasStarved M (xs (nI i + 1).toNatClampNeg))))) (rv := (rm_thrown (um_wasStarved M (xs (nI i + 1).toNatClampNeg)))) (rest := []) (va_runV (As := []) (rest := []) ⟨hx, hb, hml, hown, hts⟩ (d_X6_thrown l dC dI cI cJ cZ cO am (um_wasStarved M (xs (nI i + 1).toNatClampNeg)) _) (cwV 0 hts (gd_V wd_4_184 wd_4_185 wd_4_186 wd_1_7 wd_4_187) rfl rfl rfl (by decide +kernel) ⟨Nat.le_of_ble_eq_true rfl, Nat.le_of_ble_eq_true rfl⟩) (lw_Rq (ci := 6) (q := (RX6, TX6, 42)) (q0 := 0) rfl rfl gU_c (fun _ _ _ => trivial) hK hp hP hD) rfl rfl hl.1 rfl (lv_room (Nat.le_of_ble_eq_true rfl)) dL_law_1425 ⟨by show cells + 8 + 0 ≤ 650651; omega, by show slots + 64 + 0 ≤ 7144151; omega⟩) hp (pe_m _ _ _ _ _) hP hD hS hA (fun H locs hP hD hS => ?_)
  refine lv_iload hx hb dL_law_1428 (lv_at hl 1 rfl) ?_
  refine lv_icmp_eq (tgt := 1435) hx hb dL_law_1430 (by decide) (fun h9 => ?_) (fun h9 => absurd r1 h9)
  refine lv_iload hx hb dL_law_1435 (lv_at hl 1 rfl) ?_
  refine lv_if_ne (tgt := 1459) hx hb dL_law_1437 (by decide) (fun h8 => ?_) (fun h8 => ?_)
  · refine lv_goto (tgt := 1881) hx hb dL_law_1459 (by decide) ?_
    exact kk _ _ _ _ H locs ls r3 hP hD hS (lv_sub hl [2, 3, 4, 5, 6] rfl)
  · skip
    refine lv_aload_n hx hb dL_law_1440 rfl (lv_at hl 6 rfl) ?_
    refine lv_iconst (v := 0) hx hb dL_law_1441 (by decide) ?_
    refine va_lald hx hb hK hP 2 1 rfl rfl (i := (0 : Int32)) (ix_d (by decide)) dL_law_1442 ?_
    refine lv_iload hx hb dL_law_1443 (lv_at hl 0 rfl) ?_
    refine lw_bzl hx hb dL_law_1445 dL_law_1448 dL_law_1449 dL_law_1452 ?_
    refine hh_ceq (tgt := 1459) hx hb dL_law_1453 dL_law_1454 (by decide) (fun h7 => ?_) (fun h7 => absurd (r2 h8) h7)
    refine lv_goto (tgt := 1881) hx hb dL_law_1459 (by decide) ?_
    exact kk _ _ _ _ H locs ls r3 hP hD hS (lv_sub hl [2, 3, 4, 5, 6] rfl)
set_option maxHeartbeats 4000000 in
theorem k_held (K : KX p l s m meth c b L xs (dC, dI) cI cJ cZ cO lf a) (hR : Rel T bs M) (hi : i + 6 ≤ L) (hc : cells + 8 ≤ 650651) (hs : slots + 64 ≤ 7144151) (hP : va_P (dC, dI) vwCl (wG cI cJ cO adU uo adB adA lf bs a T (wM cI cJ cZ am M)) H) (hD : va_D (fun q => s.heap.size ≤ q) (wG cI cJ cO adU uo adB adA lf bs a T (wM cI cJ cZ am M))) (hS : va_S (fun q => s.heap.size ≤ q) s.heap H locs) (hl : lv_has ls 8 [(4, .int (nI i)), (0, .ref b), (1, .ref adB), (2, .ref (yq_adM am)), (3, .ref adU)])
    (kk : ∀ (uo : Nat → Int64) (bs : Int32) (T : LT × LT × LT) (M : MT) (H : Heap) (locs : List Loc) (ls : Array Slot), Rel T bs M → va_P (dC, dI) vwCl (wG cI cJ cO adU uo adB adA lf bs a T (wM cI cJ cZ am M)) H → va_D (fun q => s.heap.size ≤ q) (wG cI cJ cO adU uo adB adA lf bs a T (wM cI cJ cZ am M)) → va_S (fun q => s.heap.size ≤ q) s.heap H locs → lv_has ls 8 [(4, .int (nI i)), (0, .ref b), (1, .ref adB), (2, .ref (yq_adM am)), (3, .ref adU)] → W p l e room_1 s m #[Value.ref b] below meth c H locs (cells + 8) (slots + 64) Q (F0 m 1881 ls [])) : W p l e room_1 s m #[Value.ref b] below meth c H locs cells slots Q (F0 m 1462 ls []) := by
  obtain ⟨hx, hb, hr, hml, hown, hts, hX, hbl, hlocks, hG, hfl, hK, hf0, hf1, hf2, hL⟩ := id K
  have hA : ∀ q : Nat, s.heap.size ≤ q → (fun q => s.heap.size ≤ q) q := fun _ h => h
  have hbA : ¬ (fun q => s.heap.size ≤ q) b := Nat.not_le.mpr hbl
  obtain ⟨r1, r2, r3⟩ := rel_held hR (xs (nI i + 1).toNatClampNeg) uo
  refine lv_aload_n hx hb dL_law_1462 rfl (lv_at hl 2 rfl) ?_
  refine lv_aload_n hx hb dL_law_1463 rfl (lv_at hl 1 rfl) ?_
  refine lv_iload hx hb dL_law_1464 (lv_at hl 0 rfl) ?_
  refine lv_iconst (v := 1) hx hb dL_law_1466 (by decide) ?_
  refine lv_iadd hx hb dL_law_1467 ?_
  refine va_sld hx hb hX hbl hbA hS (lw_in (j := 1) (by decide) hi hL) dL_law_1468 ?_
  refine lv_aload_n hx hb dL_law_1469 rfl (lv_at hl 4 rfl) ?_
  refine s_held K (xs (nI i + 1).toNatClampNeg)  hc hs hP hD hS hl.1 dL_law_1470 (fun H locs hP hD hS => ?_)
  refine lv_istore (lv' := [(5, .int (ofL T (xs (nI i + 1).toNatClampNeg) (fun s => lr_held s ) 1)), (4, .int (nI i)), (0, .ref b), (1, .ref adB), (2, .ref (yq_adM am)), (3, .ref adU)]) hx hb dL_law_1473 hl (by decide) rfl (fun ls hl => ?_)
  refine lv_aload_n hx hb dL_law_1475 rfl (lv_at hl 4 rfl) ?_
  refine lv_aload_n hx hb dL_law_1476 rfl (lv_at hl 2 rfl) ?_
  refine lv_iload hx hb dL_law_1477 (lv_at hl 1 rfl) ?_
  refine lv_iconst (v := 1) hx hb dL_law_1479 (by decide) ?_
  refine lv_iadd hx hb dL_law_1480 ?_
  refine va_sld hx hb hX hbl hbA hS (lw_in (j := 1) (by decide) hi hL) dL_law_1481 ?_
  have hp : (wG cI cJ cO adU (ofL T (xs (nI i + 1).toNatClampNeg) (fun s => lo_held s uo ) uo) adB adA lf bs a (onL T (xs (nI i + 1).toNatClampNeg) (fun s => lu_held s )) (wM cI cJ cZ am M)).Perm (([zX5 adB adA bs, zAL cO adA 3 lf, zAJ cJ adU 1 (ofL T (xs (nI i + 1).toNatClampNeg) (fun s => lo_held s uo ) uo)] ++ (wL cI cJ a.1 (onL T (xs (nI i + 1).toNatClampNeg) (fun s => lu_held s )).1 ++ (wL cI cJ a.2.1 (onL T (xs (nI i + 1).toNatClampNeg) (fun s => lu_held s )).2.1 ++ wL cI cJ a.2.2 (onL T (xs (nI i + 1).toNatClampNeg) (fun s => lu_held s )).2.2))) ++ (wM cI cJ cZ am M)) := pe_m _ _ _ _ _
  refine lw_Ri2 (w1 := (wG cI cJ cO adU (ofL T (xs (nI i + 1).toNatClampNeg) (fun s => lo_held s uo ) uo) adB adA lf bs a (onL T (xs (nI i + 1).toNatClampNeg) (fun s => lu_held s )) (wM cI cJ cZ am (um_held M (xs (nI i + 1).toNatClampNeg))))) (wl := ([zX5 adB adA bs, zAL cO adA 3 lf, zAJ cJ adU 1 (ofL T (xs (nI i + 1).toNatClampNeg) (fun s => lo_held s uo ) uo)] ++ (wL cI cJ a.1 (onL T (xs (nI i + 1).toNatClampNeg) (fun s => lu_held s )).1 ++ (wL cI cJ a.2.1 (onL T (xs (nI i + 1).toNatClampNeg) (fun s => lu_held s )).2.1 ++ wL cI cJ a.2.2 (onL T (xs (nI i + 1).toNatClampNeg) (fun s => lu_held s )).2.2)))) (wr := (wM cI cJ cZ am M)) (wq := (wM cI cJ cZ am (um_held M (xs (nI i + 1).toNatClampNeg)))) (rv := (rm_held M (xs (nI i + 1).toNatClampNeg))) (rest := []) (va_runV (As := [.int (xs (nI i + 1).toNatClampNeg)]) (rest := []) ⟨hx, hb, hml, hown, hts⟩ (d_X6_held l dC dI cI cJ cZ cO am M (xs (nI i + 1).toNatClampNeg) _ ) (cwV 1 hts (gd_V wd_5_97 wd_5_98 wd_5_99 wd_1_7 wd_5_100) rfl rfl rfl (by decide +kernel) ⟨Nat.le_of_ble_eq_true rfl, Nat.le_of_ble_eq_true rfl⟩) (lw_Rq (ci := 6) (q := (RX6, TX6, 42)) (q0 := 0) rfl rfl gU_c (fun _ _ _ => trivial) hK hp hP hD) rfl rfl hl.1 rfl (lv_room (Nat.le_of_ble_eq_true rfl)) dL_law_1482 ⟨by show cells + 8 + 0 ≤ 650651; omega, by show slots + 64 + 0 ≤ 7144151; omega⟩) hp (pe_m _ _ _ _ _) hP hD hS hA (fun H locs hP hD hS => ?_)
  refine lv_istore (lv' := [(6, .int (rm_held M (xs (nI i + 1).toNatClampNeg))), (5, .int (ofL T (xs (nI i + 1).toNatClampNeg) (fun s => lr_held s ) 1)), (4, .int (nI i)), (0, .ref b), (1, .ref adB), (2, .ref (yq_adM am)), (3, .ref adU)]) hx hb dL_law_1485 hl (by decide) rfl (fun ls hl => ?_)
  refine lv_aload_n hx hb dL_law_1487 rfl (lv_at hl 5 rfl) ?_
  have hp : (wG cI cJ cO adU (ofL T (xs (nI i + 1).toNatClampNeg) (fun s => lo_held s uo ) uo) adB adA lf bs a (onL T (xs (nI i + 1).toNatClampNeg) (fun s => lu_held s )) (wM cI cJ cZ am (um_held M (xs (nI i + 1).toNatClampNeg)))).Perm (([zX5 adB adA bs, zAL cO adA 3 lf, zAJ cJ adU 1 (ofL T (xs (nI i + 1).toNatClampNeg) (fun s => lo_held s uo ) uo)] ++ (wL cI cJ a.1 (onL T (xs (nI i + 1).toNatClampNeg) (fun s => lu_held s )).1 ++ (wL cI cJ a.2.1 (onL T (xs (nI i + 1).toNatClampNeg) (fun s => lu_held s )).2.1 ++ wL cI cJ a.2.2 (onL T (xs (nI i + 1).toNatClampNeg) (fun s => lu_held s )).2.2))) ++ (wM cI cJ cZ am (um_held M (xs (nI i + 1).toNatClampNeg)))) := pe_m _ _ _ _ _
  refine lw_Ri2 (w1 := (wG cI cJ cO adU (ofL T (xs (nI i + 1).toNatClampNeg) (fun s => lo_held s uo ) uo) adB adA lf bs a (onL T (xs (nI i + 1).toNatClampNeg) (fun s => lu_held s )) (wM cI cJ cZ am (um_held M (xs (nI i + 1).toNatClampNeg))))) (wl := ([zX5 adB adA bs, zAL cO adA 3 lf, zAJ cJ adU 1 (ofL T (xs (nI i + 1).toNatClampNeg) (fun s => lo_held s uo ) uo)] ++ (wL cI cJ a.1 (onL T (xs (nI i + 1).toNatClampNeg) (fun s => lu_held s )).1 ++ (wL cI cJ a.2.1 (onL T (xs (nI i + 1).toNatClampNeg) (fun s => lu_held s )).2.1 ++ wL cI cJ a.2.2 (onL T (xs (nI i + 1).toNatClampNeg) (fun s => lu_held s )).2.2)))) (wr := (wM cI cJ cZ am (um_held M (xs (nI i + 1).toNatClampNeg)))) (wq := (wM cI cJ cZ am (um_thrown (um_held M (xs (nI i + 1).toNatClampNeg))))) (rv := (rm_thrown (um_held M (xs (nI i + 1).toNatClampNeg)))) (rest := []) (va_runV (As := []) (rest := []) ⟨hx, hb, hml, hown, hts⟩ (d_X6_thrown l dC dI cI cJ cZ cO am (um_held M (xs (nI i + 1).toNatClampNeg)) _) (cwV 0 hts (gd_V wd_4_184 wd_4_185 wd_4_186 wd_1_7 wd_4_187) rfl rfl rfl (by decide +kernel) ⟨Nat.le_of_ble_eq_true rfl, Nat.le_of_ble_eq_true rfl⟩) (lw_Rq (ci := 6) (q := (RX6, TX6, 42)) (q0 := 0) rfl rfl gU_c (fun _ _ _ => trivial) hK hp hP hD) rfl rfl hl.1 rfl (lv_room (Nat.le_of_ble_eq_true rfl)) dL_law_1488 ⟨by show cells + 8 + 0 ≤ 650651; omega, by show slots + 64 + 0 ≤ 7144151; omega⟩) hp (pe_m _ _ _ _ _) hP hD hS hA (fun H locs hP hD hS => ?_)
  refine lv_iload hx hb dL_law_1491 (lv_at hl 1 rfl) ?_
  refine lv_icmp_eq (tgt := 1498) hx hb dL_law_1493 (by decide) (fun h9 => ?_) (fun h9 => absurd r1 h9)
  refine lv_iload hx hb dL_law_1498 (lv_at hl 1 rfl) ?_
  refine lv_if_ne (tgt := 1515) hx hb dL_law_1500 (by decide) (fun h8 => ?_) (fun h8 => ?_)
  · refine lv_goto (tgt := 1881) hx hb dL_law_1515 (by decide) ?_
    exact kk _ _ _ _ H locs ls r3 hP hD hS (lv_sub hl [2, 3, 4, 5, 6] rfl)
  · skip
    refine lv_aload_n hx hb dL_law_1503 rfl (lv_at hl 6 rfl) ?_
    refine lv_iconst (v := 0) hx hb dL_law_1504 (by decide) ?_
    refine va_lald hx hb hK hP 2 1 rfl rfl (i := (0 : Int32)) (ix_d (by decide)) dL_law_1505 ?_
    refine lv_iload hx hb dL_law_1506 (lv_at hl 0 rfl) ?_
    refine lv_i2l hx hb dL_law_1508 rfl ?_
    refine hh_ceq (tgt := 1515) hx hb dL_law_1509 dL_law_1510 (by decide) (fun h7 => ?_) (fun h7 => absurd (r2 h8) h7)
    refine lv_goto (tgt := 1881) hx hb dL_law_1515 (by decide) ?_
    exact kk _ _ _ _ H locs ls r3 hP hD hS (lv_sub hl [2, 3, 4, 5, 6] rfl)
set_option maxHeartbeats 4000000 in
theorem k_startRelay (K : KX p l s m meth c b L xs (dC, dI) cI cJ cZ cO lf a) (hR : Rel T bs M) (hi : i + 6 ≤ L) (hc : cells + 8 ≤ 650651) (hs : slots + 64 ≤ 7144151) (hP : va_P (dC, dI) vwCl (wG cI cJ cO adU uo adB adA lf bs a T (wM cI cJ cZ am M)) H) (hD : va_D (fun q => s.heap.size ≤ q) (wG cI cJ cO adU uo adB adA lf bs a T (wM cI cJ cZ am M))) (hS : va_S (fun q => s.heap.size ≤ q) s.heap H locs) (hl : lv_has ls 8 [(4, .int (nI i)), (0, .ref b), (1, .ref adB), (2, .ref (yq_adM am)), (3, .ref adU)])
    (kk : ∀ (uo : Nat → Int64) (bs : Int32) (T : LT × LT × LT) (M : MT) (H : Heap) (locs : List Loc) (ls : Array Slot), Rel T bs M → va_P (dC, dI) vwCl (wG cI cJ cO adU uo adB adA lf bs a T (wM cI cJ cZ am M)) H → va_D (fun q => s.heap.size ≤ q) (wG cI cJ cO adU uo adB adA lf bs a T (wM cI cJ cZ am M)) → va_S (fun q => s.heap.size ≤ q) s.heap H locs → lv_has ls 8 [(4, .int (nI i)), (0, .ref b), (1, .ref adB), (2, .ref (yq_adM am)), (3, .ref adU)] → W p l e room_1 s m #[Value.ref b] below meth c H locs (cells + 8) (slots + 64) Q (F0 m 1881 ls [])) : W p l e room_1 s m #[Value.ref b] below meth c H locs cells slots Q (F0 m 1518 ls []) := by
  obtain ⟨hx, hb, hr, hml, hown, hts, hX, hbl, hlocks, hG, hfl, hK, hf0, hf1, hf2, hL⟩ := id K
  have hA : ∀ q : Nat, s.heap.size ≤ q → (fun q => s.heap.size ≤ q) q := fun _ h => h
  have hbA : ¬ (fun q => s.heap.size ≤ q) b := Nat.not_le.mpr hbl
  obtain ⟨r1, r3⟩ := rel_startRelay hR (xs (nI i + 1).toNatClampNeg) (xs (nI i + 2).toNatClampNeg) (xs (nI i + 3).toNatClampNeg)
  refine lv_aload_n hx hb dL_law_1518 rfl (lv_at hl 2 rfl) ?_
  refine lv_aload_n hx hb dL_law_1519 rfl (lv_at hl 1 rfl) ?_
  refine lv_iload hx hb dL_law_1520 (lv_at hl 0 rfl) ?_
  refine lv_iconst (v := 1) hx hb dL_law_1522 (by decide) ?_
  refine lv_iadd hx hb dL_law_1523 ?_
  refine va_sld hx hb hX hbl hbA hS (lw_in (j := 1) (by decide) hi hL) dL_law_1524 ?_
  refine lv_aload_n hx hb dL_law_1525 rfl (lv_at hl 1 rfl) ?_
  refine lv_iload hx hb dL_law_1526 (lv_at hl 0 rfl) ?_
  refine lv_iconst (v := 2) hx hb dL_law_1528 (by decide) ?_
  refine lv_iadd hx hb dL_law_1529 ?_
  refine va_sld hx hb hX hbl hbA hS (lw_in (j := 2) (by decide) hi hL) dL_law_1530 ?_
  refine lv_aload_n hx hb dL_law_1531 rfl (lv_at hl 1 rfl) ?_
  refine lv_iload hx hb dL_law_1532 (lv_at hl 0 rfl) ?_
  refine lv_iconst (v := 3) hx hb dL_law_1534 (by decide) ?_
  refine lv_iadd hx hb dL_law_1535 ?_
  refine va_sld hx hb hX hbl hbA hS (lw_in (j := 3) (by decide) hi hL) dL_law_1536 ?_
  refine s_startRelay K (xs (nI i + 1).toNatClampNeg) (xs (nI i + 2).toNatClampNeg) (xs (nI i + 3).toNatClampNeg)  hc hs hP hD hS hl.1 dL_law_1537 (fun H locs hP hD hS => ?_)
  refine lv_istore (lv' := [(5, .int (ofL T (xs (nI i + 1).toNatClampNeg) (fun s => lr_startRelay s (xs (nI i + 2).toNatClampNeg) (xs (nI i + 3).toNatClampNeg)) 1)), (4, .int (nI i)), (0, .ref b), (1, .ref adB), (2, .ref (yq_adM am)), (3, .ref adU)]) hx hb dL_law_1540 hl (by decide) rfl (fun ls hl => ?_)
  refine lv_aload_n hx hb dL_law_1542 rfl (lv_at hl 4 rfl) ?_
  refine lv_aload_n hx hb dL_law_1543 rfl (lv_at hl 2 rfl) ?_
  refine lv_iload hx hb dL_law_1544 (lv_at hl 1 rfl) ?_
  refine lv_iconst (v := 1) hx hb dL_law_1546 (by decide) ?_
  refine lv_iadd hx hb dL_law_1547 ?_
  refine va_sld hx hb hX hbl hbA hS (lw_in (j := 1) (by decide) hi hL) dL_law_1548 ?_
  refine lv_aload_n hx hb dL_law_1549 rfl (lv_at hl 2 rfl) ?_
  refine lv_iload hx hb dL_law_1550 (lv_at hl 1 rfl) ?_
  refine lv_iconst (v := 2) hx hb dL_law_1552 (by decide) ?_
  refine lv_iadd hx hb dL_law_1553 ?_
  refine va_sld hx hb hX hbl hbA hS (lw_in (j := 2) (by decide) hi hL) dL_law_1554 ?_
  refine lv_aload_n hx hb dL_law_1555 rfl (lv_at hl 2 rfl) ?_
  refine lv_iload hx hb dL_law_1556 (lv_at hl 1 rfl) ?_
  refine lv_iconst (v := 3) hx hb dL_law_1558 (by decide) ?_
  refine lv_iadd hx hb dL_law_1559 ?_
  refine va_sld hx hb hX hbl hbA hS (lw_in (j := 3) (by decide) hi hL) dL_law_1560 ?_
  have hp : (wG cI cJ cO adU (ofL T (xs (nI i + 1).toNatClampNeg) (fun s => lo_startRelay s uo (xs (nI i + 2).toNatClampNeg) (xs (nI i + 3).toNatClampNeg)) uo) adB adA lf bs a (onL T (xs (nI i + 1).toNatClampNeg) (fun s => lu_startRelay s (xs (nI i + 2).toNatClampNeg) (xs (nI i + 3).toNatClampNeg))) (wM cI cJ cZ am M)).Perm (([zX5 adB adA bs, zAL cO adA 3 lf, zAJ cJ adU 1 (ofL T (xs (nI i + 1).toNatClampNeg) (fun s => lo_startRelay s uo (xs (nI i + 2).toNatClampNeg) (xs (nI i + 3).toNatClampNeg)) uo)] ++ (wL cI cJ a.1 (onL T (xs (nI i + 1).toNatClampNeg) (fun s => lu_startRelay s (xs (nI i + 2).toNatClampNeg) (xs (nI i + 3).toNatClampNeg))).1 ++ (wL cI cJ a.2.1 (onL T (xs (nI i + 1).toNatClampNeg) (fun s => lu_startRelay s (xs (nI i + 2).toNatClampNeg) (xs (nI i + 3).toNatClampNeg))).2.1 ++ wL cI cJ a.2.2 (onL T (xs (nI i + 1).toNatClampNeg) (fun s => lu_startRelay s (xs (nI i + 2).toNatClampNeg) (xs (nI i + 3).toNatClampNeg))).2.2))) ++ (wM cI cJ cZ am M)) := pe_m _ _ _ _ _
  refine lw_Rv2 (w1 := (wG cI cJ cO adU (ofL T (xs (nI i + 1).toNatClampNeg) (fun s => lo_startRelay s uo (xs (nI i + 2).toNatClampNeg) (xs (nI i + 3).toNatClampNeg)) uo) adB adA lf bs a (onL T (xs (nI i + 1).toNatClampNeg) (fun s => lu_startRelay s (xs (nI i + 2).toNatClampNeg) (xs (nI i + 3).toNatClampNeg))) (wM cI cJ cZ am (um_startRelay M (xs (nI i + 1).toNatClampNeg) (xs (nI i + 2).toNatClampNeg) (xs (nI i + 3).toNatClampNeg))))) (wl := ([zX5 adB adA bs, zAL cO adA 3 lf, zAJ cJ adU 1 (ofL T (xs (nI i + 1).toNatClampNeg) (fun s => lo_startRelay s uo (xs (nI i + 2).toNatClampNeg) (xs (nI i + 3).toNatClampNeg)) uo)] ++ (wL cI cJ a.1 (onL T (xs (nI i + 1).toNatClampNeg) (fun s => lu_startRelay s (xs (nI i + 2).toNatClampNeg) (xs (nI i + 3).toNatClampNeg))).1 ++ (wL cI cJ a.2.1 (onL T (xs (nI i + 1).toNatClampNeg) (fun s => lu_startRelay s (xs (nI i + 2).toNatClampNeg) (xs (nI i + 3).toNatClampNeg))).2.1 ++ wL cI cJ a.2.2 (onL T (xs (nI i + 1).toNatClampNeg) (fun s => lu_startRelay s (xs (nI i + 2).toNatClampNeg) (xs (nI i + 3).toNatClampNeg))).2.2)))) (wr := (wM cI cJ cZ am M)) (wq := (wM cI cJ cZ am (um_startRelay M (xs (nI i + 1).toNatClampNeg) (xs (nI i + 2).toNatClampNeg) (xs (nI i + 3).toNatClampNeg)))) (rest := []) (va_runV (As := [.int (xs (nI i + 1).toNatClampNeg), .int (xs (nI i + 2).toNatClampNeg), .int (xs (nI i + 3).toNatClampNeg)]) (rest := []) ⟨hx, hb, hml, hown, hts⟩ (d_X6_startRelay l dC dI cI cJ cZ cO am M (xs (nI i + 1).toNatClampNeg) (xs (nI i + 2).toNatClampNeg) (xs (nI i + 3).toNatClampNeg) _ ) (cwV 3 hts (gd_V wd_5_101 wd_5_102 wd_5_103 wd_1_7 wd_5_104) rfl rfl rfl (by decide +kernel) ⟨Nat.le_of_ble_eq_true rfl, Nat.le_of_ble_eq_true rfl⟩) (lw_Rq (ci := 6) (q := (RX6, TX6, 42)) (q0 := 0) rfl rfl gU_c (fun _ _ _ => trivial) hK hp hP hD) rfl rfl hl.1 rfl (lv_room (Nat.le_of_ble_eq_true rfl)) dL_law_1561 ⟨by show cells + 8 + 0 ≤ 650651; omega, by show slots + 64 + 0 ≤ 7144151; omega⟩) hp (pe_m _ _ _ _ _) hP hD hS hA (fun H locs hP hD hS => ?_)
  refine lv_aload_n hx hb dL_law_1564 rfl (lv_at hl 4 rfl) ?_
  have hp : (wG cI cJ cO adU (ofL T (xs (nI i + 1).toNatClampNeg) (fun s => lo_startRelay s uo (xs (nI i + 2).toNatClampNeg) (xs (nI i + 3).toNatClampNeg)) uo) adB adA lf bs a (onL T (xs (nI i + 1).toNatClampNeg) (fun s => lu_startRelay s (xs (nI i + 2).toNatClampNeg) (xs (nI i + 3).toNatClampNeg))) (wM cI cJ cZ am (um_startRelay M (xs (nI i + 1).toNatClampNeg) (xs (nI i + 2).toNatClampNeg) (xs (nI i + 3).toNatClampNeg)))).Perm (([zX5 adB adA bs, zAL cO adA 3 lf, zAJ cJ adU 1 (ofL T (xs (nI i + 1).toNatClampNeg) (fun s => lo_startRelay s uo (xs (nI i + 2).toNatClampNeg) (xs (nI i + 3).toNatClampNeg)) uo)] ++ (wL cI cJ a.1 (onL T (xs (nI i + 1).toNatClampNeg) (fun s => lu_startRelay s (xs (nI i + 2).toNatClampNeg) (xs (nI i + 3).toNatClampNeg))).1 ++ (wL cI cJ a.2.1 (onL T (xs (nI i + 1).toNatClampNeg) (fun s => lu_startRelay s (xs (nI i + 2).toNatClampNeg) (xs (nI i + 3).toNatClampNeg))).2.1 ++ wL cI cJ a.2.2 (onL T (xs (nI i + 1).toNatClampNeg) (fun s => lu_startRelay s (xs (nI i + 2).toNatClampNeg) (xs (nI i + 3).toNatClampNeg))).2.2))) ++ (wM cI cJ cZ am (um_startRelay M (xs (nI i + 1).toNatClampNeg) (xs (nI i + 2).toNatClampNeg) (xs (nI i + 3).toNatClampNeg)))) := pe_m _ _ _ _ _
  refine lw_Ri2 (w1 := (wG cI cJ cO adU (ofL T (xs (nI i + 1).toNatClampNeg) (fun s => lo_startRelay s uo (xs (nI i + 2).toNatClampNeg) (xs (nI i + 3).toNatClampNeg)) uo) adB adA lf bs a (onL T (xs (nI i + 1).toNatClampNeg) (fun s => lu_startRelay s (xs (nI i + 2).toNatClampNeg) (xs (nI i + 3).toNatClampNeg))) (wM cI cJ cZ am (um_startRelay M (xs (nI i + 1).toNatClampNeg) (xs (nI i + 2).toNatClampNeg) (xs (nI i + 3).toNatClampNeg))))) (wl := ([zX5 adB adA bs, zAL cO adA 3 lf, zAJ cJ adU 1 (ofL T (xs (nI i + 1).toNatClampNeg) (fun s => lo_startRelay s uo (xs (nI i + 2).toNatClampNeg) (xs (nI i + 3).toNatClampNeg)) uo)] ++ (wL cI cJ a.1 (onL T (xs (nI i + 1).toNatClampNeg) (fun s => lu_startRelay s (xs (nI i + 2).toNatClampNeg) (xs (nI i + 3).toNatClampNeg))).1 ++ (wL cI cJ a.2.1 (onL T (xs (nI i + 1).toNatClampNeg) (fun s => lu_startRelay s (xs (nI i + 2).toNatClampNeg) (xs (nI i + 3).toNatClampNeg))).2.1 ++ wL cI cJ a.2.2 (onL T (xs (nI i + 1).toNatClampNeg) (fun s => lu_startRelay s (xs (nI i + 2).toNatClampNeg) (xs (nI i + 3).toNatClampNeg))).2.2)))) (wr := (wM cI cJ cZ am (um_startRelay M (xs (nI i + 1).toNatClampNeg) (xs (nI i + 2).toNatClampNeg) (xs (nI i + 3).toNatClampNeg)))) (wq := (wM cI cJ cZ am (um_thrown (um_startRelay M (xs (nI i + 1).toNatClampNeg) (xs (nI i + 2).toNatClampNeg) (xs (nI i + 3).toNatClampNeg))))) (rv := (rm_thrown (um_startRelay M (xs (nI i + 1).toNatClampNeg) (xs (nI i + 2).toNatClampNeg) (xs (nI i + 3).toNatClampNeg)))) (rest := []) (va_runV (As := []) (rest := []) ⟨hx, hb, hml, hown, hts⟩ (d_X6_thrown l dC dI cI cJ cZ cO am (um_startRelay M (xs (nI i + 1).toNatClampNeg) (xs (nI i + 2).toNatClampNeg) (xs (nI i + 3).toNatClampNeg)) _) (cwV 0 hts (gd_V wd_4_184 wd_4_185 wd_4_186 wd_1_7 wd_4_187) rfl rfl rfl (by decide +kernel) ⟨Nat.le_of_ble_eq_true rfl, Nat.le_of_ble_eq_true rfl⟩) (lw_Rq (ci := 6) (q := (RX6, TX6, 42)) (q0 := 0) rfl rfl gU_c (fun _ _ _ => trivial) hK hp hP hD) rfl rfl hl.1 rfl (lv_room (Nat.le_of_ble_eq_true rfl)) dL_law_1565 ⟨by show cells + 8 + 0 ≤ 650651; omega, by show slots + 64 + 0 ≤ 7144151; omega⟩) hp (pe_m _ _ _ _ _) hP hD hS hA (fun H locs hP hD hS => ?_)
  refine lv_iload hx hb dL_law_1568 (lv_at hl 0 rfl) ?_
  refine lv_icmp_eq (tgt := 1575) hx hb dL_law_1570 (by decide) (fun h9 => ?_) (fun h9 => absurd r1 h9)
  refine lv_goto (tgt := 1881) hx hb dL_law_1575 (by decide) ?_
  exact kk _ _ _ _ H locs ls r3 hP hD hS (lv_sub hl [1, 2, 3, 4, 5] rfl)
set_option maxHeartbeats 4000000 in
theorem k_experiment (K : KX p l s m meth c b L xs (dC, dI) cI cJ cZ cO lf a) (hR : Rel T bs M) (hi : i + 6 ≤ L) (hc : cells + 8 ≤ 650651) (hs : slots + 64 ≤ 7144151) (hP : va_P (dC, dI) vwCl (wG cI cJ cO adU uo adB adA lf bs a T (wM cI cJ cZ am M)) H) (hD : va_D (fun q => s.heap.size ≤ q) (wG cI cJ cO adU uo adB adA lf bs a T (wM cI cJ cZ am M))) (hS : va_S (fun q => s.heap.size ≤ q) s.heap H locs) (hl : lv_has ls 8 [(4, .int (nI i)), (0, .ref b), (1, .ref adB), (2, .ref (yq_adM am)), (3, .ref adU)])
    (kk : ∀ (uo : Nat → Int64) (bs : Int32) (T : LT × LT × LT) (M : MT) (H : Heap) (locs : List Loc) (ls : Array Slot), Rel T bs M → va_P (dC, dI) vwCl (wG cI cJ cO adU uo adB adA lf bs a T (wM cI cJ cZ am M)) H → va_D (fun q => s.heap.size ≤ q) (wG cI cJ cO adU uo adB adA lf bs a T (wM cI cJ cZ am M)) → va_S (fun q => s.heap.size ≤ q) s.heap H locs → lv_has ls 8 [(4, .int (nI i)), (0, .ref b), (1, .ref adB), (2, .ref (yq_adM am)), (3, .ref adU)] → W p l e room_1 s m #[Value.ref b] below meth c H locs (cells + 8) (slots + 64) Q (F0 m 1881 ls [])) : W p l e room_1 s m #[Value.ref b] below meth c H locs cells slots Q (F0 m 1578 ls []) := by
  obtain ⟨hx, hb, hr, hml, hown, hts, hX, hbl, hlocks, hG, hfl, hK, hf0, hf1, hf2, hL⟩ := id K
  have hA : ∀ q : Nat, s.heap.size ≤ q → (fun q => s.heap.size ≤ q) q := fun _ h => h
  have hbA : ¬ (fun q => s.heap.size ≤ q) b := Nat.not_le.mpr hbl
  obtain ⟨r1, r2, r3⟩ := rel_experiment hR (xs (nI i + 1).toNatClampNeg) uo
  refine lv_aload_n hx hb dL_law_1578 rfl (lv_at hl 2 rfl) ?_
  refine lv_aload_n hx hb dL_law_1579 rfl (lv_at hl 1 rfl) ?_
  refine lv_iload hx hb dL_law_1580 (lv_at hl 0 rfl) ?_
  refine lv_iconst (v := 1) hx hb dL_law_1582 (by decide) ?_
  refine lv_iadd hx hb dL_law_1583 ?_
  refine va_sld hx hb hX hbl hbA hS (lw_in (j := 1) (by decide) hi hL) dL_law_1584 ?_
  refine lv_aload_n hx hb dL_law_1585 rfl (lv_at hl 4 rfl) ?_
  refine s_experiment K (xs (nI i + 1).toNatClampNeg)  hc hs hP hD hS hl.1 dL_law_1586 (fun H locs hP hD hS => ?_)
  refine lv_istore (lv' := [(5, .int (ofL T (xs (nI i + 1).toNatClampNeg) (fun s => lr_experiment s ) 1)), (4, .int (nI i)), (0, .ref b), (1, .ref adB), (2, .ref (yq_adM am)), (3, .ref adU)]) hx hb dL_law_1589 hl (by decide) rfl (fun ls hl => ?_)
  refine lv_aload_n hx hb dL_law_1591 rfl (lv_at hl 4 rfl) ?_
  refine lv_aload_n hx hb dL_law_1592 rfl (lv_at hl 2 rfl) ?_
  refine lv_iload hx hb dL_law_1593 (lv_at hl 1 rfl) ?_
  refine lv_iconst (v := 1) hx hb dL_law_1595 (by decide) ?_
  refine lv_iadd hx hb dL_law_1596 ?_
  refine va_sld hx hb hX hbl hbA hS (lw_in (j := 1) (by decide) hi hL) dL_law_1597 ?_
  have hp : (wG cI cJ cO adU (ofL T (xs (nI i + 1).toNatClampNeg) (fun s => lo_experiment s uo ) uo) adB adA lf bs a (onL T (xs (nI i + 1).toNatClampNeg) (fun s => lu_experiment s )) (wM cI cJ cZ am M)).Perm (([zX5 adB adA bs, zAL cO adA 3 lf, zAJ cJ adU 1 (ofL T (xs (nI i + 1).toNatClampNeg) (fun s => lo_experiment s uo ) uo)] ++ (wL cI cJ a.1 (onL T (xs (nI i + 1).toNatClampNeg) (fun s => lu_experiment s )).1 ++ (wL cI cJ a.2.1 (onL T (xs (nI i + 1).toNatClampNeg) (fun s => lu_experiment s )).2.1 ++ wL cI cJ a.2.2 (onL T (xs (nI i + 1).toNatClampNeg) (fun s => lu_experiment s )).2.2))) ++ (wM cI cJ cZ am M)) := pe_m _ _ _ _ _
  refine lw_Ri2 (w1 := (wG cI cJ cO adU (ofL T (xs (nI i + 1).toNatClampNeg) (fun s => lo_experiment s uo ) uo) adB adA lf bs a (onL T (xs (nI i + 1).toNatClampNeg) (fun s => lu_experiment s )) (wM cI cJ cZ am (um_experiment M (xs (nI i + 1).toNatClampNeg))))) (wl := ([zX5 adB adA bs, zAL cO adA 3 lf, zAJ cJ adU 1 (ofL T (xs (nI i + 1).toNatClampNeg) (fun s => lo_experiment s uo ) uo)] ++ (wL cI cJ a.1 (onL T (xs (nI i + 1).toNatClampNeg) (fun s => lu_experiment s )).1 ++ (wL cI cJ a.2.1 (onL T (xs (nI i + 1).toNatClampNeg) (fun s => lu_experiment s )).2.1 ++ wL cI cJ a.2.2 (onL T (xs (nI i + 1).toNatClampNeg) (fun s => lu_experiment s )).2.2)))) (wr := (wM cI cJ cZ am M)) (wq := (wM cI cJ cZ am (um_experiment M (xs (nI i + 1).toNatClampNeg)))) (rv := (rm_experiment M (xs (nI i + 1).toNatClampNeg))) (rest := []) (va_runV (As := [.int (xs (nI i + 1).toNatClampNeg)]) (rest := []) ⟨hx, hb, hml, hown, hts⟩ (d_X6_experiment l dC dI cI cJ cZ cO am M (xs (nI i + 1).toNatClampNeg) _ ) (cwV 1 hts (gd_V wd_5_106 wd_5_107 wd_5_108 wd_1_7 wd_5_109) rfl rfl rfl (by decide +kernel) ⟨Nat.le_of_ble_eq_true rfl, Nat.le_of_ble_eq_true rfl⟩) (lw_Rq (ci := 6) (q := (RX6, TX6, 42)) (q0 := 0) rfl rfl gU_c (fun _ _ _ => trivial) hK hp hP hD) rfl rfl hl.1 rfl (lv_room (Nat.le_of_ble_eq_true rfl)) dL_law_1598 ⟨by show cells + 8 + 0 ≤ 650651; omega, by show slots + 64 + 0 ≤ 7144151; omega⟩) hp (pe_m _ _ _ _ _) hP hD hS hA (fun H locs hP hD hS => ?_)
  refine lv_istore (lv' := [(6, .int (rm_experiment M (xs (nI i + 1).toNatClampNeg))), (5, .int (ofL T (xs (nI i + 1).toNatClampNeg) (fun s => lr_experiment s ) 1)), (4, .int (nI i)), (0, .ref b), (1, .ref adB), (2, .ref (yq_adM am)), (3, .ref adU)]) hx hb dL_law_1601 hl (by decide) rfl (fun ls hl => ?_)
  refine lv_aload_n hx hb dL_law_1603 rfl (lv_at hl 5 rfl) ?_
  have hp : (wG cI cJ cO adU (ofL T (xs (nI i + 1).toNatClampNeg) (fun s => lo_experiment s uo ) uo) adB adA lf bs a (onL T (xs (nI i + 1).toNatClampNeg) (fun s => lu_experiment s )) (wM cI cJ cZ am (um_experiment M (xs (nI i + 1).toNatClampNeg)))).Perm (([zX5 adB adA bs, zAL cO adA 3 lf, zAJ cJ adU 1 (ofL T (xs (nI i + 1).toNatClampNeg) (fun s => lo_experiment s uo ) uo)] ++ (wL cI cJ a.1 (onL T (xs (nI i + 1).toNatClampNeg) (fun s => lu_experiment s )).1 ++ (wL cI cJ a.2.1 (onL T (xs (nI i + 1).toNatClampNeg) (fun s => lu_experiment s )).2.1 ++ wL cI cJ a.2.2 (onL T (xs (nI i + 1).toNatClampNeg) (fun s => lu_experiment s )).2.2))) ++ (wM cI cJ cZ am (um_experiment M (xs (nI i + 1).toNatClampNeg)))) := pe_m _ _ _ _ _
  refine lw_Ri2 (w1 := (wG cI cJ cO adU (ofL T (xs (nI i + 1).toNatClampNeg) (fun s => lo_experiment s uo ) uo) adB adA lf bs a (onL T (xs (nI i + 1).toNatClampNeg) (fun s => lu_experiment s )) (wM cI cJ cZ am (um_experiment M (xs (nI i + 1).toNatClampNeg))))) (wl := ([zX5 adB adA bs, zAL cO adA 3 lf, zAJ cJ adU 1 (ofL T (xs (nI i + 1).toNatClampNeg) (fun s => lo_experiment s uo ) uo)] ++ (wL cI cJ a.1 (onL T (xs (nI i + 1).toNatClampNeg) (fun s => lu_experiment s )).1 ++ (wL cI cJ a.2.1 (onL T (xs (nI i + 1).toNatClampNeg) (fun s => lu_experiment s )).2.1 ++ wL cI cJ a.2.2 (onL T (xs (nI i + 1).toNatClampNeg) (fun s => lu_experiment s )).2.2)))) (wr := (wM cI cJ cZ am (um_experiment M (xs (nI i + 1).toNatClampNeg)))) (wq := (wM cI cJ cZ am (um_thrown (um_experiment M (xs (nI i + 1).toNatClampNeg))))) (rv := (rm_thrown (um_experiment M (xs (nI i + 1).toNatClampNeg)))) (rest := []) (va_runV (As := []) (rest := []) ⟨hx, hb, hml, hown, hts⟩ (d_X6_thrown l dC dI cI cJ cZ cO am (um_experiment M (xs (nI i + 1).toNatClampNeg)) _) (cwV 0 hts (gd_V wd_4_184 wd_4_185 wd_4_186 wd_1_7 wd_4_187) rfl rfl rfl (by decide +kernel) ⟨Nat.le_of_ble_eq_true rfl, Nat.le_of_ble_eq_true rfl⟩) (lw_Rq (ci := 6) (q := (RX6, TX6, 42)) (q0 := 0) rfl rfl gU_c (fun _ _ _ => trivial) hK hp hP hD) rfl rfl hl.1 rfl (lv_room (Nat.le_of_ble_eq_true rfl)) dL_law_1604 ⟨by show cells + 8 + 0 ≤ 650651; omega, by show slots + 64 + 0 ≤ 7144151; omega⟩) hp (pe_m _ _ _ _ _) hP hD hS hA (fun H locs hP hD hS => ?_)
  refine lv_iload hx hb dL_law_1607 (lv_at hl 1 rfl) ?_
  refine lv_icmp_eq (tgt := 1614) hx hb dL_law_1609 (by decide) (fun h9 => ?_) (fun h9 => absurd r1 h9)
  refine lv_iload hx hb dL_law_1614 (lv_at hl 1 rfl) ?_
  refine lv_if_ne (tgt := 1631) hx hb dL_law_1616 (by decide) (fun h8 => ?_) (fun h8 => ?_)
  · refine lv_goto (tgt := 1881) hx hb dL_law_1631 (by decide) ?_
    exact kk _ _ _ _ H locs ls r3 hP hD hS (lv_sub hl [2, 3, 4, 5, 6] rfl)
  · skip
    refine lv_aload_n hx hb dL_law_1619 rfl (lv_at hl 6 rfl) ?_
    refine lv_iconst (v := 0) hx hb dL_law_1620 (by decide) ?_
    refine va_lald hx hb hK hP 2 1 rfl rfl (i := (0 : Int32)) (ix_d (by decide)) dL_law_1621 ?_
    refine lv_iload hx hb dL_law_1622 (lv_at hl 0 rfl) ?_
    refine lv_i2l hx hb dL_law_1624 rfl ?_
    refine hh_ceq (tgt := 1631) hx hb dL_law_1625 dL_law_1626 (by decide) (fun h7 => ?_) (fun h7 => absurd (r2 h8) h7)
    refine lv_goto (tgt := 1881) hx hb dL_law_1631 (by decide) ?_
    exact kk _ _ _ _ H locs ls r3 hP hD hS (lv_sub hl [2, 3, 4, 5, 6] rfl)
set_option maxHeartbeats 4000000 in
theorem k_period (K : KX p l s m meth c b L xs (dC, dI) cI cJ cZ cO lf a) (hR : Rel T bs M) (hi : i + 6 ≤ L) (hc : cells + 8 ≤ 650651) (hs : slots + 64 ≤ 7144151) (hP : va_P (dC, dI) vwCl (wG cI cJ cO adU uo adB adA lf bs a T (wM cI cJ cZ am M)) H) (hD : va_D (fun q => s.heap.size ≤ q) (wG cI cJ cO adU uo adB adA lf bs a T (wM cI cJ cZ am M))) (hS : va_S (fun q => s.heap.size ≤ q) s.heap H locs) (hl : lv_has ls 8 [(4, .int (nI i)), (0, .ref b), (1, .ref adB), (2, .ref (yq_adM am)), (3, .ref adU)])
    (kk : ∀ (uo : Nat → Int64) (bs : Int32) (T : LT × LT × LT) (M : MT) (H : Heap) (locs : List Loc) (ls : Array Slot), Rel T bs M → va_P (dC, dI) vwCl (wG cI cJ cO adU uo adB adA lf bs a T (wM cI cJ cZ am M)) H → va_D (fun q => s.heap.size ≤ q) (wG cI cJ cO adU uo adB adA lf bs a T (wM cI cJ cZ am M)) → va_S (fun q => s.heap.size ≤ q) s.heap H locs → lv_has ls 8 [(4, .int (nI i)), (0, .ref b), (1, .ref adB), (2, .ref (yq_adM am)), (3, .ref adU)] → W p l e room_1 s m #[Value.ref b] below meth c H locs (cells + 8) (slots + 64) Q (F0 m 1881 ls [])) : W p l e room_1 s m #[Value.ref b] below meth c H locs cells slots Q (F0 m 1634 ls []) := by
  obtain ⟨hx, hb, hr, hml, hown, hts, hX, hbl, hlocks, hG, hfl, hK, hf0, hf1, hf2, hL⟩ := id K
  have hA : ∀ q : Nat, s.heap.size ≤ q → (fun q => s.heap.size ≤ q) q := fun _ h => h
  have hbA : ¬ (fun q => s.heap.size ≤ q) b := Nat.not_le.mpr hbl
  obtain ⟨r1, r2, r3⟩ := rel_period hR (xs (nI i + 1).toNatClampNeg) uo
  refine lv_aload_n hx hb dL_law_1634 rfl (lv_at hl 2 rfl) ?_
  refine lv_aload_n hx hb dL_law_1635 rfl (lv_at hl 1 rfl) ?_
  refine lv_iload hx hb dL_law_1636 (lv_at hl 0 rfl) ?_
  refine lv_iconst (v := 1) hx hb dL_law_1638 (by decide) ?_
  refine lv_iadd hx hb dL_law_1639 ?_
  refine va_sld hx hb hX hbl hbA hS (lw_in (j := 1) (by decide) hi hL) dL_law_1640 ?_
  refine lv_aload_n hx hb dL_law_1641 rfl (lv_at hl 4 rfl) ?_
  refine s_period K (xs (nI i + 1).toNatClampNeg)  hc hs hP hD hS hl.1 dL_law_1642 (fun H locs hP hD hS => ?_)
  refine lv_istore (lv' := [(5, .int (ofL T (xs (nI i + 1).toNatClampNeg) (fun s => lr_period s ) 1)), (4, .int (nI i)), (0, .ref b), (1, .ref adB), (2, .ref (yq_adM am)), (3, .ref adU)]) hx hb dL_law_1645 hl (by decide) rfl (fun ls hl => ?_)
  refine lv_aload_n hx hb dL_law_1647 rfl (lv_at hl 4 rfl) ?_
  refine lv_aload_n hx hb dL_law_1648 rfl (lv_at hl 2 rfl) ?_
  refine lv_iload hx hb dL_law_1649 (lv_at hl 1 rfl) ?_
  refine lv_iconst (v := 1) hx hb dL_law_1651 (by decide) ?_
  refine lv_iadd hx hb dL_law_1652 ?_
  refine va_sld hx hb hX hbl hbA hS (lw_in (j := 1) (by decide) hi hL) dL_law_1653 ?_
  have hp : (wG cI cJ cO adU (ofL T (xs (nI i + 1).toNatClampNeg) (fun s => lo_period s uo ) uo) adB adA lf bs a (onL T (xs (nI i + 1).toNatClampNeg) (fun s => lu_period s )) (wM cI cJ cZ am M)).Perm (([zX5 adB adA bs, zAL cO adA 3 lf, zAJ cJ adU 1 (ofL T (xs (nI i + 1).toNatClampNeg) (fun s => lo_period s uo ) uo)] ++ (wL cI cJ a.1 (onL T (xs (nI i + 1).toNatClampNeg) (fun s => lu_period s )).1 ++ (wL cI cJ a.2.1 (onL T (xs (nI i + 1).toNatClampNeg) (fun s => lu_period s )).2.1 ++ wL cI cJ a.2.2 (onL T (xs (nI i + 1).toNatClampNeg) (fun s => lu_period s )).2.2))) ++ (wM cI cJ cZ am M)) := pe_m _ _ _ _ _
  refine lw_Ri2 (w1 := (wG cI cJ cO adU (ofL T (xs (nI i + 1).toNatClampNeg) (fun s => lo_period s uo ) uo) adB adA lf bs a (onL T (xs (nI i + 1).toNatClampNeg) (fun s => lu_period s )) (wM cI cJ cZ am (um_period M (xs (nI i + 1).toNatClampNeg))))) (wl := ([zX5 adB adA bs, zAL cO adA 3 lf, zAJ cJ adU 1 (ofL T (xs (nI i + 1).toNatClampNeg) (fun s => lo_period s uo ) uo)] ++ (wL cI cJ a.1 (onL T (xs (nI i + 1).toNatClampNeg) (fun s => lu_period s )).1 ++ (wL cI cJ a.2.1 (onL T (xs (nI i + 1).toNatClampNeg) (fun s => lu_period s )).2.1 ++ wL cI cJ a.2.2 (onL T (xs (nI i + 1).toNatClampNeg) (fun s => lu_period s )).2.2)))) (wr := (wM cI cJ cZ am M)) (wq := (wM cI cJ cZ am (um_period M (xs (nI i + 1).toNatClampNeg)))) (rv := (rm_period M (xs (nI i + 1).toNatClampNeg))) (rest := []) (va_runV (As := [.int (xs (nI i + 1).toNatClampNeg)]) (rest := []) ⟨hx, hb, hml, hown, hts⟩ (d_X6_period l dC dI cI cJ cZ cO am M (xs (nI i + 1).toNatClampNeg) _ ) (cwV 1 hts (gd_V wd_5_110 wd_5_111 wd_5_112 wd_1_7 wd_5_113) rfl rfl rfl (by decide +kernel) ⟨Nat.le_of_ble_eq_true rfl, Nat.le_of_ble_eq_true rfl⟩) (lw_Rq (ci := 6) (q := (RX6, TX6, 42)) (q0 := 0) rfl rfl gU_c (fun _ _ _ => trivial) hK hp hP hD) rfl rfl hl.1 rfl (lv_room (Nat.le_of_ble_eq_true rfl)) dL_law_1654 ⟨by show cells + 8 + 0 ≤ 650651; omega, by show slots + 64 + 0 ≤ 7144151; omega⟩) hp (pe_m _ _ _ _ _) hP hD hS hA (fun H locs hP hD hS => ?_)
  refine lv_istore (lv' := [(6, .int (rm_period M (xs (nI i + 1).toNatClampNeg))), (5, .int (ofL T (xs (nI i + 1).toNatClampNeg) (fun s => lr_period s ) 1)), (4, .int (nI i)), (0, .ref b), (1, .ref adB), (2, .ref (yq_adM am)), (3, .ref adU)]) hx hb dL_law_1657 hl (by decide) rfl (fun ls hl => ?_)
  refine lv_aload_n hx hb dL_law_1659 rfl (lv_at hl 5 rfl) ?_
  have hp : (wG cI cJ cO adU (ofL T (xs (nI i + 1).toNatClampNeg) (fun s => lo_period s uo ) uo) adB adA lf bs a (onL T (xs (nI i + 1).toNatClampNeg) (fun s => lu_period s )) (wM cI cJ cZ am (um_period M (xs (nI i + 1).toNatClampNeg)))).Perm (([zX5 adB adA bs, zAL cO adA 3 lf, zAJ cJ adU 1 (ofL T (xs (nI i + 1).toNatClampNeg) (fun s => lo_period s uo ) uo)] ++ (wL cI cJ a.1 (onL T (xs (nI i + 1).toNatClampNeg) (fun s => lu_period s )).1 ++ (wL cI cJ a.2.1 (onL T (xs (nI i + 1).toNatClampNeg) (fun s => lu_period s )).2.1 ++ wL cI cJ a.2.2 (onL T (xs (nI i + 1).toNatClampNeg) (fun s => lu_period s )).2.2))) ++ (wM cI cJ cZ am (um_period M (xs (nI i + 1).toNatClampNeg)))) := pe_m _ _ _ _ _
  refine lw_Ri2 (w1 := (wG cI cJ cO adU (ofL T (xs (nI i + 1).toNatClampNeg) (fun s => lo_period s uo ) uo) adB adA lf bs a (onL T (xs (nI i + 1).toNatClampNeg) (fun s => lu_period s )) (wM cI cJ cZ am (um_period M (xs (nI i + 1).toNatClampNeg))))) (wl := ([zX5 adB adA bs, zAL cO adA 3 lf, zAJ cJ adU 1 (ofL T (xs (nI i + 1).toNatClampNeg) (fun s => lo_period s uo ) uo)] ++ (wL cI cJ a.1 (onL T (xs (nI i + 1).toNatClampNeg) (fun s => lu_period s )).1 ++ (wL cI cJ a.2.1 (onL T (xs (nI i + 1).toNatClampNeg) (fun s => lu_period s )).2.1 ++ wL cI cJ a.2.2 (onL T (xs (nI i + 1).toNatClampNeg) (fun s => lu_period s )).2.2)))) (wr := (wM cI cJ cZ am (um_period M (xs (nI i + 1).toNatClampNeg)))) (wq := (wM cI cJ cZ am (um_thrown (um_period M (xs (nI i + 1).toNatClampNeg))))) (rv := (rm_thrown (um_period M (xs (nI i + 1).toNatClampNeg)))) (rest := []) (va_runV (As := []) (rest := []) ⟨hx, hb, hml, hown, hts⟩ (d_X6_thrown l dC dI cI cJ cZ cO am (um_period M (xs (nI i + 1).toNatClampNeg)) _) (cwV 0 hts (gd_V wd_4_184 wd_4_185 wd_4_186 wd_1_7 wd_4_187) rfl rfl rfl (by decide +kernel) ⟨Nat.le_of_ble_eq_true rfl, Nat.le_of_ble_eq_true rfl⟩) (lw_Rq (ci := 6) (q := (RX6, TX6, 42)) (q0 := 0) rfl rfl gU_c (fun _ _ _ => trivial) hK hp hP hD) rfl rfl hl.1 rfl (lv_room (Nat.le_of_ble_eq_true rfl)) dL_law_1660 ⟨by show cells + 8 + 0 ≤ 650651; omega, by show slots + 64 + 0 ≤ 7144151; omega⟩) hp (pe_m _ _ _ _ _) hP hD hS hA (fun H locs hP hD hS => ?_)
  refine lv_iload hx hb dL_law_1663 (lv_at hl 1 rfl) ?_
  refine lv_icmp_eq (tgt := 1670) hx hb dL_law_1665 (by decide) (fun h9 => ?_) (fun h9 => absurd r1 h9)
  refine lv_iload hx hb dL_law_1670 (lv_at hl 1 rfl) ?_
  refine lv_if_ne (tgt := 1687) hx hb dL_law_1672 (by decide) (fun h8 => ?_) (fun h8 => ?_)
  · refine lv_goto (tgt := 1881) hx hb dL_law_1687 (by decide) ?_
    exact kk _ _ _ _ H locs ls r3 hP hD hS (lv_sub hl [2, 3, 4, 5, 6] rfl)
  · skip
    refine lv_aload_n hx hb dL_law_1675 rfl (lv_at hl 6 rfl) ?_
    refine lv_iconst (v := 0) hx hb dL_law_1676 (by decide) ?_
    refine va_lald hx hb hK hP 2 1 rfl rfl (i := (0 : Int32)) (ix_d (by decide)) dL_law_1677 ?_
    refine lv_iload hx hb dL_law_1678 (lv_at hl 0 rfl) ?_
    refine lv_i2l hx hb dL_law_1680 rfl ?_
    refine hh_ceq (tgt := 1687) hx hb dL_law_1681 dL_law_1682 (by decide) (fun h7 => ?_) (fun h7 => absurd (r2 h8) h7)
    refine lv_goto (tgt := 1881) hx hb dL_law_1687 (by decide) ?_
    exact kk _ _ _ _ H locs ls r3 hP hD hS (lv_sub hl [2, 3, 4, 5, 6] rfl)
set_option maxHeartbeats 4000000 in
theorem k_swing (K : KX p l s m meth c b L xs (dC, dI) cI cJ cZ cO lf a) (hR : Rel T bs M) (hi : i + 6 ≤ L) (hc : cells + 8 ≤ 650651) (hs : slots + 64 ≤ 7144151) (hP : va_P (dC, dI) vwCl (wG cI cJ cO adU uo adB adA lf bs a T (wM cI cJ cZ am M)) H) (hD : va_D (fun q => s.heap.size ≤ q) (wG cI cJ cO adU uo adB adA lf bs a T (wM cI cJ cZ am M))) (hS : va_S (fun q => s.heap.size ≤ q) s.heap H locs) (hl : lv_has ls 8 [(4, .int (nI i)), (0, .ref b), (1, .ref adB), (2, .ref (yq_adM am)), (3, .ref adU)])
    (kk : ∀ (uo : Nat → Int64) (bs : Int32) (T : LT × LT × LT) (M : MT) (H : Heap) (locs : List Loc) (ls : Array Slot), Rel T bs M → va_P (dC, dI) vwCl (wG cI cJ cO adU uo adB adA lf bs a T (wM cI cJ cZ am M)) H → va_D (fun q => s.heap.size ≤ q) (wG cI cJ cO adU uo adB adA lf bs a T (wM cI cJ cZ am M)) → va_S (fun q => s.heap.size ≤ q) s.heap H locs → lv_has ls 8 [(4, .int (nI i)), (0, .ref b), (1, .ref adB), (2, .ref (yq_adM am)), (3, .ref adU)] → W p l e room_1 s m #[Value.ref b] below meth c H locs (cells + 8) (slots + 64) Q (F0 m 1881 ls [])) : W p l e room_1 s m #[Value.ref b] below meth c H locs cells slots Q (F0 m 1690 ls []) := by
  obtain ⟨hx, hb, hr, hml, hown, hts, hX, hbl, hlocks, hG, hfl, hK, hf0, hf1, hf2, hL⟩ := id K
  have hA : ∀ q : Nat, s.heap.size ≤ q → (fun q => s.heap.size ≤ q) q := fun _ h => h
  have hbA : ¬ (fun q => s.heap.size ≤ q) b := Nat.not_le.mpr hbl
  obtain ⟨r1, r2, r3⟩ := rel_swing hR (xs (nI i + 1).toNatClampNeg) uo
  refine lv_aload_n hx hb dL_law_1690 rfl (lv_at hl 2 rfl) ?_
  refine lv_aload_n hx hb dL_law_1691 rfl (lv_at hl 1 rfl) ?_
  refine lv_iload hx hb dL_law_1692 (lv_at hl 0 rfl) ?_
  refine lv_iconst (v := 1) hx hb dL_law_1694 (by decide) ?_
  refine lv_iadd hx hb dL_law_1695 ?_
  refine va_sld hx hb hX hbl hbA hS (lw_in (j := 1) (by decide) hi hL) dL_law_1696 ?_
  refine lv_aload_n hx hb dL_law_1697 rfl (lv_at hl 4 rfl) ?_
  refine s_swing K (xs (nI i + 1).toNatClampNeg)  hc hs hP hD hS hl.1 dL_law_1698 (fun H locs hP hD hS => ?_)
  refine lv_istore (lv' := [(5, .int (ofL T (xs (nI i + 1).toNatClampNeg) (fun s => lr_swing s ) 1)), (4, .int (nI i)), (0, .ref b), (1, .ref adB), (2, .ref (yq_adM am)), (3, .ref adU)]) hx hb dL_law_1701 hl (by decide) rfl (fun ls hl => ?_)
  refine lv_aload_n hx hb dL_law_1703 rfl (lv_at hl 4 rfl) ?_
  refine lv_aload_n hx hb dL_law_1704 rfl (lv_at hl 2 rfl) ?_
  refine lv_iload hx hb dL_law_1705 (lv_at hl 1 rfl) ?_
  refine lv_iconst (v := 1) hx hb dL_law_1707 (by decide) ?_
  refine lv_iadd hx hb dL_law_1708 ?_
  refine va_sld hx hb hX hbl hbA hS (lw_in (j := 1) (by decide) hi hL) dL_law_1709 ?_
  have hp : (wG cI cJ cO adU (ofL T (xs (nI i + 1).toNatClampNeg) (fun s => lo_swing s uo ) uo) adB adA lf bs a (onL T (xs (nI i + 1).toNatClampNeg) (fun s => lu_swing s )) (wM cI cJ cZ am M)).Perm (([zX5 adB adA bs, zAL cO adA 3 lf, zAJ cJ adU 1 (ofL T (xs (nI i + 1).toNatClampNeg) (fun s => lo_swing s uo ) uo)] ++ (wL cI cJ a.1 (onL T (xs (nI i + 1).toNatClampNeg) (fun s => lu_swing s )).1 ++ (wL cI cJ a.2.1 (onL T (xs (nI i + 1).toNatClampNeg) (fun s => lu_swing s )).2.1 ++ wL cI cJ a.2.2 (onL T (xs (nI i + 1).toNatClampNeg) (fun s => lu_swing s )).2.2))) ++ (wM cI cJ cZ am M)) := pe_m _ _ _ _ _
  refine lw_Rl2 (w1 := (wG cI cJ cO adU (ofL T (xs (nI i + 1).toNatClampNeg) (fun s => lo_swing s uo ) uo) adB adA lf bs a (onL T (xs (nI i + 1).toNatClampNeg) (fun s => lu_swing s )) (wM cI cJ cZ am (um_swing M (xs (nI i + 1).toNatClampNeg))))) (wl := ([zX5 adB adA bs, zAL cO adA 3 lf, zAJ cJ adU 1 (ofL T (xs (nI i + 1).toNatClampNeg) (fun s => lo_swing s uo ) uo)] ++ (wL cI cJ a.1 (onL T (xs (nI i + 1).toNatClampNeg) (fun s => lu_swing s )).1 ++ (wL cI cJ a.2.1 (onL T (xs (nI i + 1).toNatClampNeg) (fun s => lu_swing s )).2.1 ++ wL cI cJ a.2.2 (onL T (xs (nI i + 1).toNatClampNeg) (fun s => lu_swing s )).2.2)))) (wr := (wM cI cJ cZ am M)) (wq := (wM cI cJ cZ am (um_swing M (xs (nI i + 1).toNatClampNeg)))) (rv := (rm_swing M (xs (nI i + 1).toNatClampNeg))) (rest := []) (va_runV (As := [.int (xs (nI i + 1).toNatClampNeg)]) (rest := []) ⟨hx, hb, hml, hown, hts⟩ (d_X6_swing l dC dI cI cJ cZ cO am M (xs (nI i + 1).toNatClampNeg) _ ) (cwV 1 hts (gd_V wd_5_118 wd_5_119 wd_5_120 wd_1_7 wd_5_121) rfl rfl rfl (by decide +kernel) ⟨Nat.le_of_ble_eq_true rfl, Nat.le_of_ble_eq_true rfl⟩) (lw_Rq (ci := 6) (q := (RX6, TX6, 42)) (q0 := 0) rfl rfl gU_c (fun _ _ _ => trivial) hK hp hP hD) rfl rfl hl.1 rfl (lv_room (Nat.le_of_ble_eq_true rfl)) dL_law_1710 ⟨by show cells + 8 + 0 ≤ 650651; omega, by show slots + 64 + 0 ≤ 7144151; omega⟩) hp (pe_m _ _ _ _ _) hP hD hS hA (fun H locs hP hD hS => ?_)
  refine lv_lstore (lv' := [(6, .long (rm_swing M (xs (nI i + 1).toNatClampNeg))), (5, .int (ofL T (xs (nI i + 1).toNatClampNeg) (fun s => lr_swing s ) 1)), (4, .int (nI i)), (0, .ref b), (1, .ref adB), (2, .ref (yq_adM am)), (3, .ref adU)]) hx hb dL_law_1713 hl (by decide) rfl (fun ls hl => ?_)
  refine lv_aload_n hx hb dL_law_1715 rfl (lv_at hl 5 rfl) ?_
  have hp : (wG cI cJ cO adU (ofL T (xs (nI i + 1).toNatClampNeg) (fun s => lo_swing s uo ) uo) adB adA lf bs a (onL T (xs (nI i + 1).toNatClampNeg) (fun s => lu_swing s )) (wM cI cJ cZ am (um_swing M (xs (nI i + 1).toNatClampNeg)))).Perm (([zX5 adB adA bs, zAL cO adA 3 lf, zAJ cJ adU 1 (ofL T (xs (nI i + 1).toNatClampNeg) (fun s => lo_swing s uo ) uo)] ++ (wL cI cJ a.1 (onL T (xs (nI i + 1).toNatClampNeg) (fun s => lu_swing s )).1 ++ (wL cI cJ a.2.1 (onL T (xs (nI i + 1).toNatClampNeg) (fun s => lu_swing s )).2.1 ++ wL cI cJ a.2.2 (onL T (xs (nI i + 1).toNatClampNeg) (fun s => lu_swing s )).2.2))) ++ (wM cI cJ cZ am (um_swing M (xs (nI i + 1).toNatClampNeg)))) := pe_m _ _ _ _ _
  refine lw_Ri2 (w1 := (wG cI cJ cO adU (ofL T (xs (nI i + 1).toNatClampNeg) (fun s => lo_swing s uo ) uo) adB adA lf bs a (onL T (xs (nI i + 1).toNatClampNeg) (fun s => lu_swing s )) (wM cI cJ cZ am (um_swing M (xs (nI i + 1).toNatClampNeg))))) (wl := ([zX5 adB adA bs, zAL cO adA 3 lf, zAJ cJ adU 1 (ofL T (xs (nI i + 1).toNatClampNeg) (fun s => lo_swing s uo ) uo)] ++ (wL cI cJ a.1 (onL T (xs (nI i + 1).toNatClampNeg) (fun s => lu_swing s )).1 ++ (wL cI cJ a.2.1 (onL T (xs (nI i + 1).toNatClampNeg) (fun s => lu_swing s )).2.1 ++ wL cI cJ a.2.2 (onL T (xs (nI i + 1).toNatClampNeg) (fun s => lu_swing s )).2.2)))) (wr := (wM cI cJ cZ am (um_swing M (xs (nI i + 1).toNatClampNeg)))) (wq := (wM cI cJ cZ am (um_thrown (um_swing M (xs (nI i + 1).toNatClampNeg))))) (rv := (rm_thrown (um_swing M (xs (nI i + 1).toNatClampNeg)))) (rest := []) (va_runV (As := []) (rest := []) ⟨hx, hb, hml, hown, hts⟩ (d_X6_thrown l dC dI cI cJ cZ cO am (um_swing M (xs (nI i + 1).toNatClampNeg)) _) (cwV 0 hts (gd_V wd_4_184 wd_4_185 wd_4_186 wd_1_7 wd_4_187) rfl rfl rfl (by decide +kernel) ⟨Nat.le_of_ble_eq_true rfl, Nat.le_of_ble_eq_true rfl⟩) (lw_Rq (ci := 6) (q := (RX6, TX6, 42)) (q0 := 0) rfl rfl gU_c (fun _ _ _ => trivial) hK hp hP hD) rfl rfl hl.1 rfl (lv_room (Nat.le_of_ble_eq_true rfl)) dL_law_1716 ⟨by show cells + 8 + 0 ≤ 650651; omega, by show slots + 64 + 0 ≤ 7144151; omega⟩) hp (pe_m _ _ _ _ _) hP hD hS hA (fun H locs hP hD hS => ?_)
  refine lv_iload hx hb dL_law_1719 (lv_at hl 1 rfl) ?_
  refine lv_icmp_eq (tgt := 1726) hx hb dL_law_1721 (by decide) (fun h9 => ?_) (fun h9 => absurd r1 h9)
  refine lv_iload hx hb dL_law_1726 (lv_at hl 1 rfl) ?_
  refine lv_if_ne (tgt := 1742) hx hb dL_law_1728 (by decide) (fun h8 => ?_) (fun h8 => ?_)
  · refine lv_goto (tgt := 1881) hx hb dL_law_1742 (by decide) ?_
    exact kk _ _ _ _ H locs ls r3 hP hD hS (lv_sub hl [2, 3, 4, 5, 6] rfl)
  · skip
    refine lv_aload_n hx hb dL_law_1731 rfl (lv_at hl 6 rfl) ?_
    refine lv_iconst (v := 0) hx hb dL_law_1732 (by decide) ?_
    refine va_lald hx hb hK hP 2 1 rfl rfl (i := (0 : Int32)) (ix_d (by decide)) dL_law_1733 ?_
    refine lv_lload hx hb dL_law_1734 (lv_at hl 0 rfl) ?_
    refine hh_ceq (tgt := 1742) hx hb dL_law_1736 dL_law_1737 (by decide) (fun h7 => ?_) (fun h7 => absurd (r2 h8) h7)
    refine lv_goto (tgt := 1881) hx hb dL_law_1742 (by decide) ?_
    exact kk _ _ _ _ H locs ls r3 hP hD hS (lv_sub hl [2, 3, 4, 5, 6] rfl)
set_option maxHeartbeats 4000000 in
theorem k_ultimateGain (K : KX p l s m meth c b L xs (dC, dI) cI cJ cZ cO lf a) (hR : Rel T bs M) (hi : i + 6 ≤ L) (hc : cells + 8 ≤ 650651) (hs : slots + 64 ≤ 7144151) (hP : va_P (dC, dI) vwCl (wG cI cJ cO adU uo adB adA lf bs a T (wM cI cJ cZ am M)) H) (hD : va_D (fun q => s.heap.size ≤ q) (wG cI cJ cO adU uo adB adA lf bs a T (wM cI cJ cZ am M))) (hS : va_S (fun q => s.heap.size ≤ q) s.heap H locs) (hl : lv_has ls 8 [(4, .int (nI i)), (0, .ref b), (1, .ref adB), (2, .ref (yq_adM am)), (3, .ref adU)])
    (kk : ∀ (uo : Nat → Int64) (bs : Int32) (T : LT × LT × LT) (M : MT) (H : Heap) (locs : List Loc) (ls : Array Slot), Rel T bs M → va_P (dC, dI) vwCl (wG cI cJ cO adU uo adB adA lf bs a T (wM cI cJ cZ am M)) H → va_D (fun q => s.heap.size ≤ q) (wG cI cJ cO adU uo adB adA lf bs a T (wM cI cJ cZ am M)) → va_S (fun q => s.heap.size ≤ q) s.heap H locs → lv_has ls 8 [(4, .int (nI i)), (0, .ref b), (1, .ref adB), (2, .ref (yq_adM am)), (3, .ref adU)] → W p l e room_1 s m #[Value.ref b] below meth c H locs (cells + 8) (slots + 64) Q (F0 m 1881 ls [])) : W p l e room_1 s m #[Value.ref b] below meth c H locs cells slots Q (F0 m 1745 ls []) := by
  obtain ⟨hx, hb, hr, hml, hown, hts, hX, hbl, hlocks, hG, hfl, hK, hf0, hf1, hf2, hL⟩ := id K
  have hA : ∀ q : Nat, s.heap.size ≤ q → (fun q => s.heap.size ≤ q) q := fun _ h => h
  have hbA : ¬ (fun q => s.heap.size ≤ q) b := Nat.not_le.mpr hbl
  obtain ⟨r1, r2, r3⟩ := rel_ultimateGain hR (xs (nI i + 1).toNatClampNeg) uo
  refine lv_aload_n hx hb dL_law_1745 rfl (lv_at hl 2 rfl) ?_
  refine lv_aload_n hx hb dL_law_1746 rfl (lv_at hl 1 rfl) ?_
  refine lv_iload hx hb dL_law_1747 (lv_at hl 0 rfl) ?_
  refine lv_iconst (v := 1) hx hb dL_law_1749 (by decide) ?_
  refine lv_iadd hx hb dL_law_1750 ?_
  refine va_sld hx hb hX hbl hbA hS (lw_in (j := 1) (by decide) hi hL) dL_law_1751 ?_
  refine lv_aload_n hx hb dL_law_1752 rfl (lv_at hl 4 rfl) ?_
  refine s_ultimateGain K (xs (nI i + 1).toNatClampNeg) (rel_hsw hR).1 (rel_hsw hR).2.1 (rel_hsw hR).2.2 hc hs hP hD hS hl.1 dL_law_1753 (fun H locs hP hD hS => ?_)
  refine lv_istore (lv' := [(5, .int (ofL T (xs (nI i + 1).toNatClampNeg) (fun s => lr_ultimateGain s ) 1)), (4, .int (nI i)), (0, .ref b), (1, .ref adB), (2, .ref (yq_adM am)), (3, .ref adU)]) hx hb dL_law_1756 hl (by decide) rfl (fun ls hl => ?_)
  refine lv_aload_n hx hb dL_law_1758 rfl (lv_at hl 4 rfl) ?_
  refine lv_aload_n hx hb dL_law_1759 rfl (lv_at hl 2 rfl) ?_
  refine lv_iload hx hb dL_law_1760 (lv_at hl 1 rfl) ?_
  refine lv_iconst (v := 1) hx hb dL_law_1762 (by decide) ?_
  refine lv_iadd hx hb dL_law_1763 ?_
  refine va_sld hx hb hX hbl hbA hS (lw_in (j := 1) (by decide) hi hL) dL_law_1764 ?_
  have hp : (wG cI cJ cO adU (ofL T (xs (nI i + 1).toNatClampNeg) (fun s => lo_ultimateGain s uo ) uo) adB adA lf bs a (onL T (xs (nI i + 1).toNatClampNeg) (fun s => lu_ultimateGain s )) (wM cI cJ cZ am M)).Perm (([zX5 adB adA bs, zAL cO adA 3 lf, zAJ cJ adU 1 (ofL T (xs (nI i + 1).toNatClampNeg) (fun s => lo_ultimateGain s uo ) uo)] ++ (wL cI cJ a.1 (onL T (xs (nI i + 1).toNatClampNeg) (fun s => lu_ultimateGain s )).1 ++ (wL cI cJ a.2.1 (onL T (xs (nI i + 1).toNatClampNeg) (fun s => lu_ultimateGain s )).2.1 ++ wL cI cJ a.2.2 (onL T (xs (nI i + 1).toNatClampNeg) (fun s => lu_ultimateGain s )).2.2))) ++ (wM cI cJ cZ am M)) := pe_m _ _ _ _ _
  refine lw_Ri2 (w1 := (wG cI cJ cO adU (ofL T (xs (nI i + 1).toNatClampNeg) (fun s => lo_ultimateGain s uo ) uo) adB adA lf bs a (onL T (xs (nI i + 1).toNatClampNeg) (fun s => lu_ultimateGain s )) (wM cI cJ cZ am (um_ultimateGain M (xs (nI i + 1).toNatClampNeg))))) (wl := ([zX5 adB adA bs, zAL cO adA 3 lf, zAJ cJ adU 1 (ofL T (xs (nI i + 1).toNatClampNeg) (fun s => lo_ultimateGain s uo ) uo)] ++ (wL cI cJ a.1 (onL T (xs (nI i + 1).toNatClampNeg) (fun s => lu_ultimateGain s )).1 ++ (wL cI cJ a.2.1 (onL T (xs (nI i + 1).toNatClampNeg) (fun s => lu_ultimateGain s )).2.1 ++ wL cI cJ a.2.2 (onL T (xs (nI i + 1).toNatClampNeg) (fun s => lu_ultimateGain s )).2.2)))) (wr := (wM cI cJ cZ am M)) (wq := (wM cI cJ cZ am (um_ultimateGain M (xs (nI i + 1).toNatClampNeg)))) (rv := (rm_ultimateGain M (xs (nI i + 1).toNatClampNeg))) (rest := []) (va_runV (As := [.int (xs (nI i + 1).toNatClampNeg)]) (rest := []) ⟨hx, hb, hml, hown, hts⟩ (d_X6_ultimateGain l dC dI cI cJ cZ cO am M (xs (nI i + 1).toNatClampNeg) _ (rel_hsr hR)) (cwV 1 hts (gd_V wd_5_122 wd_5_123 wd_5_124 wd_1_7 wd_5_125) rfl rfl rfl (by decide +kernel) ⟨Nat.le_of_ble_eq_true rfl, Nat.le_of_ble_eq_true rfl⟩) (lw_Rq (ci := 6) (q := (RX6, TX6, 42)) (q0 := 0) rfl rfl gU_c (fun _ _ _ => trivial) hK hp hP hD) rfl rfl hl.1 rfl (lv_room (Nat.le_of_ble_eq_true rfl)) dL_law_1765 ⟨by show cells + 8 + 0 ≤ 650651; omega, by show slots + 64 + 0 ≤ 7144151; omega⟩) hp (pe_m _ _ _ _ _) hP hD hS hA (fun H locs hP hD hS => ?_)
  refine lv_istore (lv' := [(6, .int (rm_ultimateGain M (xs (nI i + 1).toNatClampNeg))), (5, .int (ofL T (xs (nI i + 1).toNatClampNeg) (fun s => lr_ultimateGain s ) 1)), (4, .int (nI i)), (0, .ref b), (1, .ref adB), (2, .ref (yq_adM am)), (3, .ref adU)]) hx hb dL_law_1768 hl (by decide) rfl (fun ls hl => ?_)
  refine lv_aload_n hx hb dL_law_1770 rfl (lv_at hl 5 rfl) ?_
  have hp : (wG cI cJ cO adU (ofL T (xs (nI i + 1).toNatClampNeg) (fun s => lo_ultimateGain s uo ) uo) adB adA lf bs a (onL T (xs (nI i + 1).toNatClampNeg) (fun s => lu_ultimateGain s )) (wM cI cJ cZ am (um_ultimateGain M (xs (nI i + 1).toNatClampNeg)))).Perm (([zX5 adB adA bs, zAL cO adA 3 lf, zAJ cJ adU 1 (ofL T (xs (nI i + 1).toNatClampNeg) (fun s => lo_ultimateGain s uo ) uo)] ++ (wL cI cJ a.1 (onL T (xs (nI i + 1).toNatClampNeg) (fun s => lu_ultimateGain s )).1 ++ (wL cI cJ a.2.1 (onL T (xs (nI i + 1).toNatClampNeg) (fun s => lu_ultimateGain s )).2.1 ++ wL cI cJ a.2.2 (onL T (xs (nI i + 1).toNatClampNeg) (fun s => lu_ultimateGain s )).2.2))) ++ (wM cI cJ cZ am (um_ultimateGain M (xs (nI i + 1).toNatClampNeg)))) := pe_m _ _ _ _ _
  refine lw_Ri2 (w1 := (wG cI cJ cO adU (ofL T (xs (nI i + 1).toNatClampNeg) (fun s => lo_ultimateGain s uo ) uo) adB adA lf bs a (onL T (xs (nI i + 1).toNatClampNeg) (fun s => lu_ultimateGain s )) (wM cI cJ cZ am (um_ultimateGain M (xs (nI i + 1).toNatClampNeg))))) (wl := ([zX5 adB adA bs, zAL cO adA 3 lf, zAJ cJ adU 1 (ofL T (xs (nI i + 1).toNatClampNeg) (fun s => lo_ultimateGain s uo ) uo)] ++ (wL cI cJ a.1 (onL T (xs (nI i + 1).toNatClampNeg) (fun s => lu_ultimateGain s )).1 ++ (wL cI cJ a.2.1 (onL T (xs (nI i + 1).toNatClampNeg) (fun s => lu_ultimateGain s )).2.1 ++ wL cI cJ a.2.2 (onL T (xs (nI i + 1).toNatClampNeg) (fun s => lu_ultimateGain s )).2.2)))) (wr := (wM cI cJ cZ am (um_ultimateGain M (xs (nI i + 1).toNatClampNeg)))) (wq := (wM cI cJ cZ am (um_thrown (um_ultimateGain M (xs (nI i + 1).toNatClampNeg))))) (rv := (rm_thrown (um_ultimateGain M (xs (nI i + 1).toNatClampNeg)))) (rest := []) (va_runV (As := []) (rest := []) ⟨hx, hb, hml, hown, hts⟩ (d_X6_thrown l dC dI cI cJ cZ cO am (um_ultimateGain M (xs (nI i + 1).toNatClampNeg)) _) (cwV 0 hts (gd_V wd_4_184 wd_4_185 wd_4_186 wd_1_7 wd_4_187) rfl rfl rfl (by decide +kernel) ⟨Nat.le_of_ble_eq_true rfl, Nat.le_of_ble_eq_true rfl⟩) (lw_Rq (ci := 6) (q := (RX6, TX6, 42)) (q0 := 0) rfl rfl gU_c (fun _ _ _ => trivial) hK hp hP hD) rfl rfl hl.1 rfl (lv_room (Nat.le_of_ble_eq_true rfl)) dL_law_1771 ⟨by show cells + 8 + 0 ≤ 650651; omega, by show slots + 64 + 0 ≤ 7144151; omega⟩) hp (pe_m _ _ _ _ _) hP hD hS hA (fun H locs hP hD hS => ?_)
  refine lv_iload hx hb dL_law_1774 (lv_at hl 1 rfl) ?_
  refine lv_icmp_eq (tgt := 1781) hx hb dL_law_1776 (by decide) (fun h9 => ?_) (fun h9 => absurd r1 h9)
  refine lv_iload hx hb dL_law_1781 (lv_at hl 1 rfl) ?_
  refine lv_if_ne (tgt := 1798) hx hb dL_law_1783 (by decide) (fun h8 => ?_) (fun h8 => ?_)
  · refine lv_goto (tgt := 1881) hx hb dL_law_1798 (by decide) ?_
    exact kk _ _ _ _ H locs ls r3 hP hD hS (lv_sub hl [2, 3, 4, 5, 6] rfl)
  · skip
    refine lv_aload_n hx hb dL_law_1786 rfl (lv_at hl 6 rfl) ?_
    refine lv_iconst (v := 0) hx hb dL_law_1787 (by decide) ?_
    refine va_lald hx hb hK hP 2 1 rfl rfl (i := (0 : Int32)) (ix_d (by decide)) dL_law_1788 ?_
    refine lv_iload hx hb dL_law_1789 (lv_at hl 0 rfl) ?_
    refine lv_i2l hx hb dL_law_1791 rfl ?_
    refine hh_ceq (tgt := 1798) hx hb dL_law_1792 dL_law_1793 (by decide) (fun h7 => ?_) (fun h7 => absurd (r2 h8) h7)
    refine lv_goto (tgt := 1881) hx hb dL_law_1798 (by decide) ?_
    exact kk _ _ _ _ H locs ls r3 hP hD hS (lv_sub hl [2, 3, 4, 5, 6] rfl)
set_option maxHeartbeats 4000000 in
theorem k_proposed (K : KX p l s m meth c b L xs (dC, dI) cI cJ cZ cO lf a) (hR : Rel T bs M) (hi : i + 6 ≤ L) (hc : cells + 8 ≤ 650651) (hs : slots + 64 ≤ 7144151) (hP : va_P (dC, dI) vwCl (wG cI cJ cO adU uo adB adA lf bs a T (wM cI cJ cZ am M)) H) (hD : va_D (fun q => s.heap.size ≤ q) (wG cI cJ cO adU uo adB adA lf bs a T (wM cI cJ cZ am M))) (hS : va_S (fun q => s.heap.size ≤ q) s.heap H locs) (hl : lv_has ls 8 [(4, .int (nI i)), (0, .ref b), (1, .ref adB), (2, .ref (yq_adM am)), (3, .ref adU)])
    (kk : ∀ (uo : Nat → Int64) (bs : Int32) (T : LT × LT × LT) (M : MT) (H : Heap) (locs : List Loc) (ls : Array Slot), Rel T bs M → va_P (dC, dI) vwCl (wG cI cJ cO adU uo adB adA lf bs a T (wM cI cJ cZ am M)) H → va_D (fun q => s.heap.size ≤ q) (wG cI cJ cO adU uo adB adA lf bs a T (wM cI cJ cZ am M)) → va_S (fun q => s.heap.size ≤ q) s.heap H locs → lv_has ls 8 [(4, .int (nI i)), (0, .ref b), (1, .ref adB), (2, .ref (yq_adM am)), (3, .ref adU)] → W p l e room_1 s m #[Value.ref b] below meth c H locs (cells + 8) (slots + 64) Q (F0 m 1881 ls [])) : W p l e room_1 s m #[Value.ref b] below meth c H locs cells slots Q (F0 m 1801 ls []) := by
  obtain ⟨hx, hb, hr, hml, hown, hts, hX, hbl, hlocks, hG, hfl, hK, hf0, hf1, hf2, hL⟩ := id K
  have hA : ∀ q : Nat, s.heap.size ≤ q → (fun q => s.heap.size ≤ q) q := fun _ h => h
  have hbA : ¬ (fun q => s.heap.size ≤ q) b := Nat.not_le.mpr hbl
  obtain ⟨r1, r2, r3⟩ := rel_proposed hR (xs (nI i + 1).toNatClampNeg) (xs (nI i + 2).toNatClampNeg) (xs (nI i + 3).toNatClampNeg) uo
  refine lv_aload_n hx hb dL_law_1801 rfl (lv_at hl 2 rfl) ?_
  refine lv_aload_n hx hb dL_law_1802 rfl (lv_at hl 1 rfl) ?_
  refine lv_iload hx hb dL_law_1803 (lv_at hl 0 rfl) ?_
  refine lv_iconst (v := 1) hx hb dL_law_1805 (by decide) ?_
  refine lv_iadd hx hb dL_law_1806 ?_
  refine va_sld hx hb hX hbl hbA hS (lw_in (j := 1) (by decide) hi hL) dL_law_1807 ?_
  refine lv_aload_n hx hb dL_law_1808 rfl (lv_at hl 1 rfl) ?_
  refine lv_iload hx hb dL_law_1809 (lv_at hl 0 rfl) ?_
  refine lv_iconst (v := 2) hx hb dL_law_1811 (by decide) ?_
  refine lv_iadd hx hb dL_law_1812 ?_
  refine va_sld hx hb hX hbl hbA hS (lw_in (j := 2) (by decide) hi hL) dL_law_1813 ?_
  refine lv_aload_n hx hb dL_law_1814 rfl (lv_at hl 1 rfl) ?_
  refine lv_iload hx hb dL_law_1815 (lv_at hl 0 rfl) ?_
  refine lv_iconst (v := 3) hx hb dL_law_1817 (by decide) ?_
  refine lv_iadd hx hb dL_law_1818 ?_
  refine va_sld hx hb hX hbl hbA hS (lw_in (j := 3) (by decide) hi hL) dL_law_1819 ?_
  refine lv_aload_n hx hb dL_law_1820 rfl (lv_at hl 4 rfl) ?_
  refine s_proposed K (xs (nI i + 1).toNatClampNeg) (xs (nI i + 2).toNatClampNeg) (xs (nI i + 3).toNatClampNeg) (rel_hsw hR).1 (rel_hsw hR).2.1 (rel_hsw hR).2.2 hc hs hP hD hS hl.1 dL_law_1821 (fun H locs hP hD hS => ?_)
  refine lv_istore (lv' := [(5, .int (ofL T (xs (nI i + 1).toNatClampNeg) (fun s => lr_proposed s (xs (nI i + 2).toNatClampNeg) (xs (nI i + 3).toNatClampNeg)) 1)), (4, .int (nI i)), (0, .ref b), (1, .ref adB), (2, .ref (yq_adM am)), (3, .ref adU)]) hx hb dL_law_1824 hl (by decide) rfl (fun ls hl => ?_)
  refine lv_aload_n hx hb dL_law_1826 rfl (lv_at hl 4 rfl) ?_
  refine lv_aload_n hx hb dL_law_1827 rfl (lv_at hl 2 rfl) ?_
  refine lv_iload hx hb dL_law_1828 (lv_at hl 1 rfl) ?_
  refine lv_iconst (v := 1) hx hb dL_law_1830 (by decide) ?_
  refine lv_iadd hx hb dL_law_1831 ?_
  refine va_sld hx hb hX hbl hbA hS (lw_in (j := 1) (by decide) hi hL) dL_law_1832 ?_
  refine lv_aload_n hx hb dL_law_1833 rfl (lv_at hl 2 rfl) ?_
  refine lv_iload hx hb dL_law_1834 (lv_at hl 1 rfl) ?_
  refine lv_iconst (v := 2) hx hb dL_law_1836 (by decide) ?_
  refine lv_iadd hx hb dL_law_1837 ?_
  refine va_sld hx hb hX hbl hbA hS (lw_in (j := 2) (by decide) hi hL) dL_law_1838 ?_
  refine lv_aload_n hx hb dL_law_1839 rfl (lv_at hl 2 rfl) ?_
  refine lv_iload hx hb dL_law_1840 (lv_at hl 1 rfl) ?_
  refine lv_iconst (v := 3) hx hb dL_law_1842 (by decide) ?_
  refine lv_iadd hx hb dL_law_1843 ?_
  refine va_sld hx hb hX hbl hbA hS (lw_in (j := 3) (by decide) hi hL) dL_law_1844 ?_
  have hp : (wG cI cJ cO adU (ofL T (xs (nI i + 1).toNatClampNeg) (fun s => lo_proposed s uo (xs (nI i + 2).toNatClampNeg) (xs (nI i + 3).toNatClampNeg)) uo) adB adA lf bs a (onL T (xs (nI i + 1).toNatClampNeg) (fun s => lu_proposed s (xs (nI i + 2).toNatClampNeg) (xs (nI i + 3).toNatClampNeg))) (wM cI cJ cZ am M)).Perm (([zX5 adB adA bs, zAL cO adA 3 lf, zAJ cJ adU 1 (ofL T (xs (nI i + 1).toNatClampNeg) (fun s => lo_proposed s uo (xs (nI i + 2).toNatClampNeg) (xs (nI i + 3).toNatClampNeg)) uo)] ++ (wL cI cJ a.1 (onL T (xs (nI i + 1).toNatClampNeg) (fun s => lu_proposed s (xs (nI i + 2).toNatClampNeg) (xs (nI i + 3).toNatClampNeg))).1 ++ (wL cI cJ a.2.1 (onL T (xs (nI i + 1).toNatClampNeg) (fun s => lu_proposed s (xs (nI i + 2).toNatClampNeg) (xs (nI i + 3).toNatClampNeg))).2.1 ++ wL cI cJ a.2.2 (onL T (xs (nI i + 1).toNatClampNeg) (fun s => lu_proposed s (xs (nI i + 2).toNatClampNeg) (xs (nI i + 3).toNatClampNeg))).2.2))) ++ (wM cI cJ cZ am M)) := pe_m _ _ _ _ _
  refine lw_Ri2 (w1 := (wG cI cJ cO adU (ofL T (xs (nI i + 1).toNatClampNeg) (fun s => lo_proposed s uo (xs (nI i + 2).toNatClampNeg) (xs (nI i + 3).toNatClampNeg)) uo) adB adA lf bs a (onL T (xs (nI i + 1).toNatClampNeg) (fun s => lu_proposed s (xs (nI i + 2).toNatClampNeg) (xs (nI i + 3).toNatClampNeg))) (wM cI cJ cZ am (um_proposed M (xs (nI i + 1).toNatClampNeg) (xs (nI i + 2).toNatClampNeg) (xs (nI i + 3).toNatClampNeg))))) (wl := ([zX5 adB adA bs, zAL cO adA 3 lf, zAJ cJ adU 1 (ofL T (xs (nI i + 1).toNatClampNeg) (fun s => lo_proposed s uo (xs (nI i + 2).toNatClampNeg) (xs (nI i + 3).toNatClampNeg)) uo)] ++ (wL cI cJ a.1 (onL T (xs (nI i + 1).toNatClampNeg) (fun s => lu_proposed s (xs (nI i + 2).toNatClampNeg) (xs (nI i + 3).toNatClampNeg))).1 ++ (wL cI cJ a.2.1 (onL T (xs (nI i + 1).toNatClampNeg) (fun s => lu_proposed s (xs (nI i + 2).toNatClampNeg) (xs (nI i + 3).toNatClampNeg))).2.1 ++ wL cI cJ a.2.2 (onL T (xs (nI i + 1).toNatClampNeg) (fun s => lu_proposed s (xs (nI i + 2).toNatClampNeg) (xs (nI i + 3).toNatClampNeg))).2.2)))) (wr := (wM cI cJ cZ am M)) (wq := (wM cI cJ cZ am (um_proposed M (xs (nI i + 1).toNatClampNeg) (xs (nI i + 2).toNatClampNeg) (xs (nI i + 3).toNatClampNeg)))) (rv := (rm_proposed M (xs (nI i + 1).toNatClampNeg) (xs (nI i + 2).toNatClampNeg) (xs (nI i + 3).toNatClampNeg))) (rest := []) (va_runV (As := [.int (xs (nI i + 1).toNatClampNeg), .int (xs (nI i + 2).toNatClampNeg), .int (xs (nI i + 3).toNatClampNeg)]) (rest := []) ⟨hx, hb, hml, hown, hts⟩ (d_X6_proposed l dC dI cI cJ cZ cO am M (xs (nI i + 1).toNatClampNeg) (xs (nI i + 2).toNatClampNeg) (xs (nI i + 3).toNatClampNeg) _ (rel_hsr hR)) (cwV 3 hts (gd_V wd_5_132 wd_5_133 wd_5_134 wd_1_7 wd_5_135) rfl rfl rfl (by decide +kernel) ⟨Nat.le_of_ble_eq_true rfl, Nat.le_of_ble_eq_true rfl⟩) (lw_Rq (ci := 6) (q := (RX6, TX6, 42)) (q0 := 0) rfl rfl gU_c (fun _ _ _ => trivial) hK hp hP hD) rfl rfl hl.1 rfl (lv_room (Nat.le_of_ble_eq_true rfl)) dL_law_1845 ⟨by show cells + 8 + 0 ≤ 650651; omega, by show slots + 64 + 0 ≤ 7144151; omega⟩) hp (pe_m _ _ _ _ _) hP hD hS hA (fun H locs hP hD hS => ?_)
  refine lv_istore (lv' := [(6, .int (rm_proposed M (xs (nI i + 1).toNatClampNeg) (xs (nI i + 2).toNatClampNeg) (xs (nI i + 3).toNatClampNeg))), (5, .int (ofL T (xs (nI i + 1).toNatClampNeg) (fun s => lr_proposed s (xs (nI i + 2).toNatClampNeg) (xs (nI i + 3).toNatClampNeg)) 1)), (4, .int (nI i)), (0, .ref b), (1, .ref adB), (2, .ref (yq_adM am)), (3, .ref adU)]) hx hb dL_law_1848 hl (by decide) rfl (fun ls hl => ?_)
  refine lv_aload_n hx hb dL_law_1850 rfl (lv_at hl 5 rfl) ?_
  have hp : (wG cI cJ cO adU (ofL T (xs (nI i + 1).toNatClampNeg) (fun s => lo_proposed s uo (xs (nI i + 2).toNatClampNeg) (xs (nI i + 3).toNatClampNeg)) uo) adB adA lf bs a (onL T (xs (nI i + 1).toNatClampNeg) (fun s => lu_proposed s (xs (nI i + 2).toNatClampNeg) (xs (nI i + 3).toNatClampNeg))) (wM cI cJ cZ am (um_proposed M (xs (nI i + 1).toNatClampNeg) (xs (nI i + 2).toNatClampNeg) (xs (nI i + 3).toNatClampNeg)))).Perm (([zX5 adB adA bs, zAL cO adA 3 lf, zAJ cJ adU 1 (ofL T (xs (nI i + 1).toNatClampNeg) (fun s => lo_proposed s uo (xs (nI i + 2).toNatClampNeg) (xs (nI i + 3).toNatClampNeg)) uo)] ++ (wL cI cJ a.1 (onL T (xs (nI i + 1).toNatClampNeg) (fun s => lu_proposed s (xs (nI i + 2).toNatClampNeg) (xs (nI i + 3).toNatClampNeg))).1 ++ (wL cI cJ a.2.1 (onL T (xs (nI i + 1).toNatClampNeg) (fun s => lu_proposed s (xs (nI i + 2).toNatClampNeg) (xs (nI i + 3).toNatClampNeg))).2.1 ++ wL cI cJ a.2.2 (onL T (xs (nI i + 1).toNatClampNeg) (fun s => lu_proposed s (xs (nI i + 2).toNatClampNeg) (xs (nI i + 3).toNatClampNeg))).2.2))) ++ (wM cI cJ cZ am (um_proposed M (xs (nI i + 1).toNatClampNeg) (xs (nI i + 2).toNatClampNeg) (xs (nI i + 3).toNatClampNeg)))) := pe_m _ _ _ _ _
  refine lw_Ri2 (w1 := (wG cI cJ cO adU (ofL T (xs (nI i + 1).toNatClampNeg) (fun s => lo_proposed s uo (xs (nI i + 2).toNatClampNeg) (xs (nI i + 3).toNatClampNeg)) uo) adB adA lf bs a (onL T (xs (nI i + 1).toNatClampNeg) (fun s => lu_proposed s (xs (nI i + 2).toNatClampNeg) (xs (nI i + 3).toNatClampNeg))) (wM cI cJ cZ am (um_proposed M (xs (nI i + 1).toNatClampNeg) (xs (nI i + 2).toNatClampNeg) (xs (nI i + 3).toNatClampNeg))))) (wl := ([zX5 adB adA bs, zAL cO adA 3 lf, zAJ cJ adU 1 (ofL T (xs (nI i + 1).toNatClampNeg) (fun s => lo_proposed s uo (xs (nI i + 2).toNatClampNeg) (xs (nI i + 3).toNatClampNeg)) uo)] ++ (wL cI cJ a.1 (onL T (xs (nI i + 1).toNatClampNeg) (fun s => lu_proposed s (xs (nI i + 2).toNatClampNeg) (xs (nI i + 3).toNatClampNeg))).1 ++ (wL cI cJ a.2.1 (onL T (xs (nI i + 1).toNatClampNeg) (fun s => lu_proposed s (xs (nI i + 2).toNatClampNeg) (xs (nI i + 3).toNatClampNeg))).2.1 ++ wL cI cJ a.2.2 (onL T (xs (nI i + 1).toNatClampNeg) (fun s => lu_proposed s (xs (nI i + 2).toNatClampNeg) (xs (nI i + 3).toNatClampNeg))).2.2)))) (wr := (wM cI cJ cZ am (um_proposed M (xs (nI i + 1).toNatClampNeg) (xs (nI i + 2).toNatClampNeg) (xs (nI i + 3).toNatClampNeg)))) (wq := (wM cI cJ cZ am (um_thrown (um_proposed M (xs (nI i + 1).toNatClampNeg) (xs (nI i + 2).toNatClampNeg) (xs (nI i + 3).toNatClampNeg))))) (rv := (rm_thrown (um_proposed M (xs (nI i + 1).toNatClampNeg) (xs (nI i + 2).toNatClampNeg) (xs (nI i + 3).toNatClampNeg)))) (rest := []) (va_runV (As := []) (rest := []) ⟨hx, hb, hml, hown, hts⟩ (d_X6_thrown l dC dI cI cJ cZ cO am (um_proposed M (xs (nI i + 1).toNatClampNeg) (xs (nI i + 2).toNatClampNeg) (xs (nI i + 3).toNatClampNeg)) _) (cwV 0 hts (gd_V wd_4_184 wd_4_185 wd_4_186 wd_1_7 wd_4_187) rfl rfl rfl (by decide +kernel) ⟨Nat.le_of_ble_eq_true rfl, Nat.le_of_ble_eq_true rfl⟩) (lw_Rq (ci := 6) (q := (RX6, TX6, 42)) (q0 := 0) rfl rfl gU_c (fun _ _ _ => trivial) hK hp hP hD) rfl rfl hl.1 rfl (lv_room (Nat.le_of_ble_eq_true rfl)) dL_law_1851 ⟨by show cells + 8 + 0 ≤ 650651; omega, by show slots + 64 + 0 ≤ 7144151; omega⟩) hp (pe_m _ _ _ _ _) hP hD hS hA (fun H locs hP hD hS => ?_)
  refine lv_iload hx hb dL_law_1854 (lv_at hl 1 rfl) ?_
  refine lv_icmp_eq (tgt := 1861) hx hb dL_law_1856 (by decide) (fun h9 => ?_) (fun h9 => absurd r1 h9)
  refine lv_iload hx hb dL_law_1861 (lv_at hl 1 rfl) ?_
  refine lv_if_ne (tgt := 1878) hx hb dL_law_1863 (by decide) (fun h8 => ?_) (fun h8 => ?_)
  · refine lv_goto (tgt := 1881) hx hb dL_law_1878 (by decide) ?_
    exact kk _ _ _ _ H locs ls r3 hP hD hS (lv_sub hl [2, 3, 4, 5, 6] rfl)
  · skip
    refine lv_aload_n hx hb dL_law_1866 rfl (lv_at hl 6 rfl) ?_
    refine lv_iconst (v := 0) hx hb dL_law_1867 (by decide) ?_
    refine va_lald hx hb hK hP 2 1 rfl rfl (i := (0 : Int32)) (ix_d (by decide)) dL_law_1868 ?_
    refine lv_iload hx hb dL_law_1869 (lv_at hl 0 rfl) ?_
    refine lv_i2l hx hb dL_law_1871 rfl ?_
    refine hh_ceq (tgt := 1878) hx hb dL_law_1872 dL_law_1873 (by decide) (fun h7 => ?_) (fun h7 => absurd (r2 h8) h7)
    refine lv_goto (tgt := 1881) hx hb dL_law_1878 (by decide) ?_
    exact kk _ _ _ _ H locs ls r3 hP hD hS (lv_sub hl [2, 3, 4, 5, 6] rfl)
end KO
