section KO
variable {p : Program} {l : Launch} {e : Env} {s : State} {m : MethodId} {below : List Frame} {meth : Method} {c : Code} {b L : Nat} {xs : Nat → Int32} {dC : Nat → ClassId} {dI : Nat → Nat → Nat} {cI cJ cZ cO : ClassId} {adU adB adA : Nat} {lf : Nat → Option Nat} {a : AT × AT × AT} {am : QT} {bs : Int32} {uo : Nat → Int64} {T : LT × LT × LT} {M : MT} {H : Heap} {locs : List Loc} {cells slots i : Nat} {ls : Array Slot} {Q : State → Prop}
set_option maxHeartbeats 4000000 in
theorem k_setMode (K : KX p l s m meth c b L xs (dC, dI) cI cJ cZ cO lf a) (hR : Rel T bs M) (hi : i + 6 ≤ L) (hc : cells + 8 ≤ 650651) (hs : slots + 64 ≤ 7144151) (hP : va_P (dC, dI) vwCl (wG cI cJ cO adU uo adB adA lf bs a T (wM cI cJ cZ am M)) H) (hD : va_D (fun q => s.heap.size ≤ q) (wG cI cJ cO adU uo adB adA lf bs a T (wM cI cJ cZ am M))) (hS : va_S (fun q => s.heap.size ≤ q) s.heap H locs) (hl : lv_has ls 8 [(4, .int (nI i)), (0, .ref b), (1, .ref adB), (2, .ref (yq_adM am)), (3, .ref adU)])
    (kk : ∀ (uo : Nat → Int64) (bs : Int32) (T : LT × LT × LT) (M : MT) (H : Heap) (locs : List Loc) (ls : Array Slot), Rel T bs M → va_P (dC, dI) vwCl (wG cI cJ cO adU uo adB adA lf bs a T (wM cI cJ cZ am M)) H → va_D (fun q => s.heap.size ≤ q) (wG cI cJ cO adU uo adB adA lf bs a T (wM cI cJ cZ am M)) → va_S (fun q => s.heap.size ≤ q) s.heap H locs → lv_has ls 8 [(4, .int (nI i)), (0, .ref b), (1, .ref adB), (2, .ref (yq_adM am)), (3, .ref adU)] → W p l e room_1 s m #[Value.ref b] below meth c H locs (cells + 8) (slots + 64) Q (F0 m 1881 ls [])) : W p l e room_1 s m #[Value.ref b] below meth c H locs cells slots Q (F0 m 876 ls []) := by
  obtain ⟨hx, hb, hr, hml, hown, hts, hX, hbl, hlocks, hG, hfl, hK, hf0, hf1, hf2, hL⟩ := id K
  have hA : ∀ q : Nat, s.heap.size ≤ q → (fun q => s.heap.size ≤ q) q := fun _ h => h
  have hbA : ¬ (fun q => s.heap.size ≤ q) b := Nat.not_le.mpr hbl
  obtain ⟨r1, r2, r3⟩ := rel_setMode hR (xs (nI i + 1).toNatClampNeg) (xs (nI i + 2).toNatClampNeg) uo
  refine lv_aload_n hx hb dL_law_876 rfl (lv_at hl 2 rfl) ?_
  refine lv_aload_n hx hb dL_law_877 rfl (lv_at hl 1 rfl) ?_
  refine lv_iload hx hb dL_law_878 (lv_at hl 0 rfl) ?_
  refine lv_iconst (v := 1) hx hb dL_law_880 (by decide) ?_
  refine lv_iadd hx hb dL_law_881 ?_
  refine va_sld hx hb hX hbl hbA hS (lw_in (j := 1) (by decide) hi hL) dL_law_882 ?_
  refine lv_aload_n hx hb dL_law_883 rfl (lv_at hl 1 rfl) ?_
  refine lv_iload hx hb dL_law_884 (lv_at hl 0 rfl) ?_
  refine lv_iconst (v := 2) hx hb dL_law_886 (by decide) ?_
  refine lv_iadd hx hb dL_law_887 ?_
  refine va_sld hx hb hX hbl hbA hS (lw_in (j := 2) (by decide) hi hL) dL_law_888 ?_
  refine lv_aload_n hx hb dL_law_889 rfl (lv_at hl 4 rfl) ?_
  refine s_setMode K (xs (nI i + 1).toNatClampNeg) (xs (nI i + 2).toNatClampNeg)  hc hs hP hD hS hl.1 dL_law_890 (fun H locs hP hD hS => ?_)
  refine lv_istore (lv' := [(5, .int (ofL T (xs (nI i + 1).toNatClampNeg) (fun s => lr_setMode s (xs (nI i + 2).toNatClampNeg)) 1)), (4, .int (nI i)), (0, .ref b), (1, .ref adB), (2, .ref (yq_adM am)), (3, .ref adU)]) hx hb dL_law_893 hl (by decide) rfl (fun ls hl => ?_)
  refine lv_aload_n hx hb dL_law_895 rfl (lv_at hl 4 rfl) ?_
  refine lv_aload_n hx hb dL_law_896 rfl (lv_at hl 2 rfl) ?_
  refine lv_iload hx hb dL_law_897 (lv_at hl 1 rfl) ?_
  refine lv_iconst (v := 1) hx hb dL_law_899 (by decide) ?_
  refine lv_iadd hx hb dL_law_900 ?_
  refine va_sld hx hb hX hbl hbA hS (lw_in (j := 1) (by decide) hi hL) dL_law_901 ?_
  refine lv_aload_n hx hb dL_law_902 rfl (lv_at hl 2 rfl) ?_
  refine lv_iload hx hb dL_law_903 (lv_at hl 1 rfl) ?_
  refine lv_iconst (v := 2) hx hb dL_law_905 (by decide) ?_
  refine lv_iadd hx hb dL_law_906 ?_
  refine va_sld hx hb hX hbl hbA hS (lw_in (j := 2) (by decide) hi hL) dL_law_907 ?_
  have hp : (wG cI cJ cO adU (ofL T (xs (nI i + 1).toNatClampNeg) (fun s => lo_setMode s uo (xs (nI i + 2).toNatClampNeg)) uo) adB adA lf bs a (onL T (xs (nI i + 1).toNatClampNeg) (fun s => lu_setMode s (xs (nI i + 2).toNatClampNeg))) (wM cI cJ cZ am M)).Perm (([zX5 adB adA bs, zAL cO adA 3 lf, zAJ cJ adU 1 (ofL T (xs (nI i + 1).toNatClampNeg) (fun s => lo_setMode s uo (xs (nI i + 2).toNatClampNeg)) uo)] ++ (wL cI cJ a.1 (onL T (xs (nI i + 1).toNatClampNeg) (fun s => lu_setMode s (xs (nI i + 2).toNatClampNeg))).1 ++ (wL cI cJ a.2.1 (onL T (xs (nI i + 1).toNatClampNeg) (fun s => lu_setMode s (xs (nI i + 2).toNatClampNeg))).2.1 ++ wL cI cJ a.2.2 (onL T (xs (nI i + 1).toNatClampNeg) (fun s => lu_setMode s (xs (nI i + 2).toNatClampNeg))).2.2))) ++ (wM cI cJ cZ am M)) := pe_m _ _ _ _ _
  refine lw_Ri2 (w1 := (wG cI cJ cO adU (ofL T (xs (nI i + 1).toNatClampNeg) (fun s => lo_setMode s uo (xs (nI i + 2).toNatClampNeg)) uo) adB adA lf bs a (onL T (xs (nI i + 1).toNatClampNeg) (fun s => lu_setMode s (xs (nI i + 2).toNatClampNeg))) (wM cI cJ cZ am (um_setMode M (xs (nI i + 1).toNatClampNeg) (xs (nI i + 2).toNatClampNeg))))) (wl := ([zX5 adB adA bs, zAL cO adA 3 lf, zAJ cJ adU 1 (ofL T (xs (nI i + 1).toNatClampNeg) (fun s => lo_setMode s uo (xs (nI i + 2).toNatClampNeg)) uo)] ++ (wL cI cJ a.1 (onL T (xs (nI i + 1).toNatClampNeg) (fun s => lu_setMode s (xs (nI i + 2).toNatClampNeg))).1 ++ (wL cI cJ a.2.1 (onL T (xs (nI i + 1).toNatClampNeg) (fun s => lu_setMode s (xs (nI i + 2).toNatClampNeg))).2.1 ++ wL cI cJ a.2.2 (onL T (xs (nI i + 1).toNatClampNeg) (fun s => lu_setMode s (xs (nI i + 2).toNatClampNeg))).2.2)))) (wr := (wM cI cJ cZ am M)) (wq := (wM cI cJ cZ am (um_setMode M (xs (nI i + 1).toNatClampNeg) (xs (nI i + 2).toNatClampNeg)))) (rv := (rm_setMode M (xs (nI i + 1).toNatClampNeg) (xs (nI i + 2).toNatClampNeg))) (rest := []) (va_runV (As := [.int (xs (nI i + 1).toNatClampNeg), .int (xs (nI i + 2).toNatClampNeg)]) (rest := []) ⟨hx, hb, hml, hown, hts⟩ (d_X6_setMode l dC dI cI cJ cZ cO am M (xs (nI i + 1).toNatClampNeg) (xs (nI i + 2).toNatClampNeg) _ ) (cwV 2 hts (gd_V wd_5_13 wd_5_14 wd_5_15 wd_1_7 wd_5_16) rfl rfl rfl (by decide +kernel) ⟨Nat.le_of_ble_eq_true rfl, Nat.le_of_ble_eq_true rfl⟩) (lw_Rq (ci := 6) (q := (RX6, TX6, 42)) (q0 := 0) rfl rfl gU_c (fun _ _ _ => trivial) hK hp hP hD) rfl rfl hl.1 rfl (lv_room (Nat.le_of_ble_eq_true rfl)) dL_law_908 ⟨by show cells + 8 + 0 ≤ 650651; omega, by show slots + 64 + 0 ≤ 7144151; omega⟩) hp (pe_m _ _ _ _ _) hP hD hS hA (fun H locs hP hD hS => ?_)
  refine lv_istore (lv' := [(6, .int (rm_setMode M (xs (nI i + 1).toNatClampNeg) (xs (nI i + 2).toNatClampNeg))), (5, .int (ofL T (xs (nI i + 1).toNatClampNeg) (fun s => lr_setMode s (xs (nI i + 2).toNatClampNeg)) 1)), (4, .int (nI i)), (0, .ref b), (1, .ref adB), (2, .ref (yq_adM am)), (3, .ref adU)]) hx hb dL_law_911 hl (by decide) rfl (fun ls hl => ?_)
  refine lv_aload_n hx hb dL_law_913 rfl (lv_at hl 5 rfl) ?_
  have hp : (wG cI cJ cO adU (ofL T (xs (nI i + 1).toNatClampNeg) (fun s => lo_setMode s uo (xs (nI i + 2).toNatClampNeg)) uo) adB adA lf bs a (onL T (xs (nI i + 1).toNatClampNeg) (fun s => lu_setMode s (xs (nI i + 2).toNatClampNeg))) (wM cI cJ cZ am (um_setMode M (xs (nI i + 1).toNatClampNeg) (xs (nI i + 2).toNatClampNeg)))).Perm (([zX5 adB adA bs, zAL cO adA 3 lf, zAJ cJ adU 1 (ofL T (xs (nI i + 1).toNatClampNeg) (fun s => lo_setMode s uo (xs (nI i + 2).toNatClampNeg)) uo)] ++ (wL cI cJ a.1 (onL T (xs (nI i + 1).toNatClampNeg) (fun s => lu_setMode s (xs (nI i + 2).toNatClampNeg))).1 ++ (wL cI cJ a.2.1 (onL T (xs (nI i + 1).toNatClampNeg) (fun s => lu_setMode s (xs (nI i + 2).toNatClampNeg))).2.1 ++ wL cI cJ a.2.2 (onL T (xs (nI i + 1).toNatClampNeg) (fun s => lu_setMode s (xs (nI i + 2).toNatClampNeg))).2.2))) ++ (wM cI cJ cZ am (um_setMode M (xs (nI i + 1).toNatClampNeg) (xs (nI i + 2).toNatClampNeg)))) := pe_m _ _ _ _ _
  refine lw_Ri2 (w1 := (wG cI cJ cO adU (ofL T (xs (nI i + 1).toNatClampNeg) (fun s => lo_setMode s uo (xs (nI i + 2).toNatClampNeg)) uo) adB adA lf bs a (onL T (xs (nI i + 1).toNatClampNeg) (fun s => lu_setMode s (xs (nI i + 2).toNatClampNeg))) (wM cI cJ cZ am (um_setMode M (xs (nI i + 1).toNatClampNeg) (xs (nI i + 2).toNatClampNeg))))) (wl := ([zX5 adB adA bs, zAL cO adA 3 lf, zAJ cJ adU 1 (ofL T (xs (nI i + 1).toNatClampNeg) (fun s => lo_setMode s uo (xs (nI i + 2).toNatClampNeg)) uo)] ++ (wL cI cJ a.1 (onL T (xs (nI i + 1).toNatClampNeg) (fun s => lu_setMode s (xs (nI i + 2).toNatClampNeg))).1 ++ (wL cI cJ a.2.1 (onL T (xs (nI i + 1).toNatClampNeg) (fun s => lu_setMode s (xs (nI i + 2).toNatClampNeg))).2.1 ++ wL cI cJ a.2.2 (onL T (xs (nI i + 1).toNatClampNeg) (fun s => lu_setMode s (xs (nI i + 2).toNatClampNeg))).2.2)))) (wr := (wM cI cJ cZ am (um_setMode M (xs (nI i + 1).toNatClampNeg) (xs (nI i + 2).toNatClampNeg)))) (wq := (wM cI cJ cZ am (um_thrown (um_setMode M (xs (nI i + 1).toNatClampNeg) (xs (nI i + 2).toNatClampNeg))))) (rv := (rm_thrown (um_setMode M (xs (nI i + 1).toNatClampNeg) (xs (nI i + 2).toNatClampNeg)))) (rest := []) (va_runV (As := []) (rest := []) ⟨hx, hb, hml, hown, hts⟩ (d_X6_thrown l dC dI cI cJ cZ cO am (um_setMode M (xs (nI i + 1).toNatClampNeg) (xs (nI i + 2).toNatClampNeg)) _) (cwV 0 hts (gd_V wd_4_184 wd_4_185 wd_4_186 wd_1_7 wd_4_187) rfl rfl rfl (by decide +kernel) ⟨Nat.le_of_ble_eq_true rfl, Nat.le_of_ble_eq_true rfl⟩) (lw_Rq (ci := 6) (q := (RX6, TX6, 42)) (q0 := 0) rfl rfl gU_c (fun _ _ _ => trivial) hK hp hP hD) rfl rfl hl.1 rfl (lv_room (Nat.le_of_ble_eq_true rfl)) dL_law_914 ⟨by show cells + 8 + 0 ≤ 650651; omega, by show slots + 64 + 0 ≤ 7144151; omega⟩) hp (pe_m _ _ _ _ _) hP hD hS hA (fun H locs hP hD hS => ?_)
  refine lv_iload hx hb dL_law_917 (lv_at hl 1 rfl) ?_
  refine lv_icmp_eq (tgt := 924) hx hb dL_law_919 (by decide) (fun h9 => ?_) (fun h9 => absurd r1 h9)
  refine lv_iload hx hb dL_law_924 (lv_at hl 1 rfl) ?_
  refine lv_if_ne (tgt := 941) hx hb dL_law_926 (by decide) (fun h8 => ?_) (fun h8 => ?_)
  · refine lv_goto (tgt := 1881) hx hb dL_law_941 (by decide) ?_
    exact kk _ _ _ _ H locs ls r3 hP hD hS (lv_sub hl [2, 3, 4, 5, 6] rfl)
  · skip
    refine lv_aload_n hx hb dL_law_929 rfl (lv_at hl 6 rfl) ?_
    refine lv_iconst (v := 0) hx hb dL_law_930 (by decide) ?_
    refine va_lald hx hb hK hP 2 1 rfl rfl (i := (0 : Int32)) (ix_d (by decide)) dL_law_931 ?_
    refine lv_iload hx hb dL_law_932 (lv_at hl 0 rfl) ?_
    refine lv_i2l hx hb dL_law_934 rfl ?_
    refine hh_ceq (tgt := 941) hx hb dL_law_935 dL_law_936 (by decide) (fun h7 => ?_) (fun h7 => absurd (r2 h8) h7)
    refine lv_goto (tgt := 1881) hx hb dL_law_941 (by decide) ?_
    exact kk _ _ _ _ H locs ls r3 hP hD hS (lv_sub hl [2, 3, 4, 5, 6] rfl)
set_option maxHeartbeats 4000000 in
theorem k_run (K : KX p l s m meth c b L xs (dC, dI) cI cJ cZ cO lf a) (hR : Rel T bs M) (hi : i + 6 ≤ L) (hc : cells + 8 ≤ 650651) (hs : slots + 64 ≤ 7144151) (hP : va_P (dC, dI) vwCl (wG cI cJ cO adU uo adB adA lf bs a T (wM cI cJ cZ am M)) H) (hD : va_D (fun q => s.heap.size ≤ q) (wG cI cJ cO adU uo adB adA lf bs a T (wM cI cJ cZ am M))) (hS : va_S (fun q => s.heap.size ≤ q) s.heap H locs) (hl : lv_has ls 8 [(4, .int (nI i)), (0, .ref b), (1, .ref adB), (2, .ref (yq_adM am)), (3, .ref adU)])
    (kk : ∀ (uo : Nat → Int64) (bs : Int32) (T : LT × LT × LT) (M : MT) (H : Heap) (locs : List Loc) (ls : Array Slot), Rel T bs M → va_P (dC, dI) vwCl (wG cI cJ cO adU uo adB adA lf bs a T (wM cI cJ cZ am M)) H → va_D (fun q => s.heap.size ≤ q) (wG cI cJ cO adU uo adB adA lf bs a T (wM cI cJ cZ am M)) → va_S (fun q => s.heap.size ≤ q) s.heap H locs → lv_has ls 8 [(4, .int (nI i)), (0, .ref b), (1, .ref adB), (2, .ref (yq_adM am)), (3, .ref adU)] → W p l e room_1 s m #[Value.ref b] below meth c H locs (cells + 8) (slots + 64) Q (F0 m 1881 ls [])) : W p l e room_1 s m #[Value.ref b] below meth c H locs cells slots Q (F0 m 944 ls []) := by
  obtain ⟨hx, hb, hr, hml, hown, hts, hX, hbl, hlocks, hG, hfl, hK, hf0, hf1, hf2, hL⟩ := id K
  have hA : ∀ q : Nat, s.heap.size ≤ q → (fun q => s.heap.size ≤ q) q := fun _ h => h
  have hbA : ¬ (fun q => s.heap.size ≤ q) b := Nat.not_le.mpr hbl
  obtain ⟨r1, r2, r3⟩ := rel_run hR (xs (nI i + 1).toNatClampNeg) uo
  refine lv_aload_n hx hb dL_law_944 rfl (lv_at hl 2 rfl) ?_
  refine lv_aload_n hx hb dL_law_945 rfl (lv_at hl 1 rfl) ?_
  refine lv_iload hx hb dL_law_946 (lv_at hl 0 rfl) ?_
  refine lv_iconst (v := 1) hx hb dL_law_948 (by decide) ?_
  refine lv_iadd hx hb dL_law_949 ?_
  refine va_sld hx hb hX hbl hbA hS (lw_in (j := 1) (by decide) hi hL) dL_law_950 ?_
  refine lv_aload_n hx hb dL_law_951 rfl (lv_at hl 4 rfl) ?_
  have hp := pe_r (zX5 adB adA bs) (zAL cO adA 3 lf) (zAJ cJ adU 1 uo) (wL cI cJ a.1 T.1) (wL cI cJ a.2.1 T.2.1) (wL cI cJ a.2.2 T.2.2) (wM cI cJ cZ am M)
  refine lw_Lp (kc := 8) (ks := 64) (wl := zAJ cJ adU 1 uo :: wC cI cJ cO adB adA lf bs a T) (wr := (wM cI cJ cZ am M)) (wq := zAJ cJ adU 1 (lo_run uo bs (xs (nI i + 1).toNatClampNeg)) :: wC cI cJ cO adB adA lf (lb_run bs (xs (nI i + 1).toNatClampNeg)) a (lu_run T (xs (nI i + 1).toNatClampNeg))) (w0 := (wG cI cJ cO adU uo adB adA lf bs a T (wM cI cJ cZ am M))) (w1 := (wG cI cJ cO adU (lo_run uo bs (xs (nI i + 1).toNatClampNeg)) adB adA lf (lb_run bs (xs (nI i + 1).toNatClampNeg)) a (lu_run T (xs (nI i + 1).toNatClampNeg)) (wM cI cJ cZ am M))) (rv := (lr_run (xs (nI i + 1).toNatClampNeg))) (rest := []) (vx_runSW (As := [.ref adB, .int (xs (nI i + 1).toNatClampNeg), .ref adU]) (rest := []) ⟨hx, hb, hml, hown, hts⟩ (c_L_run l dC dI cI cJ cZ cO adB adA bs lf a T adU uo (xs (nI i + 1).toNatClampNeg) _ hfl hf0 hf1 hf2 (rel_ivC hR (xs (nI i + 1).toNatClampNeg))) (vx_cwSW 3 hts (gd_S wd_3_17 wd_3_18 wd_1_0 wd_3_19) rfl rfl rfl (by decide +kernel) ⟨Nat.le_of_ble_eq_true rfl, Nat.le_of_ble_eq_true rfl⟩) (lw_Lq (w0 := (wG cI cJ cO adU uo adB adA lf bs a T (wM cI cJ cZ am M))) (gW_c _) (gW_call hG hS (lw_sub (w0 := (wG cI cJ cO adU uo adB adA lf bs a T (wM cI cJ cZ am M))) hp hD hS hA)) hK hp hP hD) rfl rfl hl.1 rfl (lv_room (Nat.le_of_ble_eq_true rfl)) dL_law_952 ⟨by show cells + 1 ≤ 650651; omega, by show slots + 6 ≤ 7144151; omega⟩) hp (pe_r _ _ _ _ _ _ _) hP hD hS hA (Nat.le_of_ble_eq_true rfl) (Nat.le_of_ble_eq_true rfl) (fun H locs hP hD hS => ?_)
  refine lv_istore (lv' := [(5, .int (lr_run (xs (nI i + 1).toNatClampNeg))), (4, .int (nI i)), (0, .ref b), (1, .ref adB), (2, .ref (yq_adM am)), (3, .ref adU)]) hx hb dL_law_955 hl (by decide) rfl (fun ls hl => ?_)
  refine lv_aload_n hx hb dL_law_957 rfl (lv_at hl 4 rfl) ?_
  refine lv_aload_n hx hb dL_law_958 rfl (lv_at hl 2 rfl) ?_
  refine lv_iload hx hb dL_law_959 (lv_at hl 1 rfl) ?_
  refine lv_iconst (v := 1) hx hb dL_law_961 (by decide) ?_
  refine lv_iadd hx hb dL_law_962 ?_
  refine va_sld hx hb hX hbl hbA hS (lw_in (j := 1) (by decide) hi hL) dL_law_963 ?_
  have hp : (wG cI cJ cO adU (lo_run uo bs (xs (nI i + 1).toNatClampNeg)) adB adA lf (lb_run bs (xs (nI i + 1).toNatClampNeg)) a (lu_run T (xs (nI i + 1).toNatClampNeg)) (wM cI cJ cZ am M)).Perm (([zX5 adB adA (lb_run bs (xs (nI i + 1).toNatClampNeg)), zAL cO adA 3 lf, zAJ cJ adU 1 (lo_run uo bs (xs (nI i + 1).toNatClampNeg))] ++ (wL cI cJ a.1 (lu_run T (xs (nI i + 1).toNatClampNeg)).1 ++ (wL cI cJ a.2.1 (lu_run T (xs (nI i + 1).toNatClampNeg)).2.1 ++ wL cI cJ a.2.2 (lu_run T (xs (nI i + 1).toNatClampNeg)).2.2))) ++ (wM cI cJ cZ am M)) := pe_m _ _ _ _ _
  refine lw_Ri2 (w1 := (wG cI cJ cO adU (lo_run uo bs (xs (nI i + 1).toNatClampNeg)) adB adA lf (lb_run bs (xs (nI i + 1).toNatClampNeg)) a (lu_run T (xs (nI i + 1).toNatClampNeg)) (wM cI cJ cZ am (runM M (xs (nI i + 1).toNatClampNeg))))) (wl := ([zX5 adB adA (lb_run bs (xs (nI i + 1).toNatClampNeg)), zAL cO adA 3 lf, zAJ cJ adU 1 (lo_run uo bs (xs (nI i + 1).toNatClampNeg))] ++ (wL cI cJ a.1 (lu_run T (xs (nI i + 1).toNatClampNeg)).1 ++ (wL cI cJ a.2.1 (lu_run T (xs (nI i + 1).toNatClampNeg)).2.1 ++ wL cI cJ a.2.2 (lu_run T (xs (nI i + 1).toNatClampNeg)).2.2)))) (wr := (wM cI cJ cZ am M)) (wq := (wM cI cJ cZ am (runM M (xs (nI i + 1).toNatClampNeg)))) (rv := (runM_r M (xs (nI i + 1).toNatClampNeg))) (rest := []) (va_runV (As := [.int (xs (nI i + 1).toNatClampNeg)]) (rest := []) ⟨hx, hb, hml, hown, hts⟩ (c_X6_run l dC dI cI cJ cZ cO am M (xs (nI i + 1).toNatClampNeg) _ (rel_ivM hR (xs (nI i + 1).toNatClampNeg))) (cwV 1 hts (gd_V wd_5_25 wd_5_26 wd_5_27 wd_1_7 wd_5_28) rfl rfl rfl (by decide +kernel) ⟨Nat.le_of_ble_eq_true rfl, Nat.le_of_ble_eq_true rfl⟩) (lw_Rq (ci := 6) (q := (RX6, TX6, 42)) (q0 := 0) rfl rfl gU_c (fun _ _ _ => trivial) hK hp hP hD) rfl rfl hl.1 rfl (lv_room (Nat.le_of_ble_eq_true rfl)) dL_law_964 ⟨by show cells + 8 + 0 ≤ 650651; omega, by show slots + 64 + 0 ≤ 7144151; omega⟩) hp (pe_m _ _ _ _ _) hP hD hS hA (fun H locs hP hD hS => ?_)
  refine lv_istore (lv' := [(6, .int (runM_r M (xs (nI i + 1).toNatClampNeg))), (5, .int (lr_run (xs (nI i + 1).toNatClampNeg))), (4, .int (nI i)), (0, .ref b), (1, .ref adB), (2, .ref (yq_adM am)), (3, .ref adU)]) hx hb dL_law_967 hl (by decide) rfl (fun ls hl => ?_)
  refine lv_aload_n hx hb dL_law_969 rfl (lv_at hl 5 rfl) ?_
  have hp : (wG cI cJ cO adU (lo_run uo bs (xs (nI i + 1).toNatClampNeg)) adB adA lf (lb_run bs (xs (nI i + 1).toNatClampNeg)) a (lu_run T (xs (nI i + 1).toNatClampNeg)) (wM cI cJ cZ am (runM M (xs (nI i + 1).toNatClampNeg)))).Perm (([zX5 adB adA (lb_run bs (xs (nI i + 1).toNatClampNeg)), zAL cO adA 3 lf, zAJ cJ adU 1 (lo_run uo bs (xs (nI i + 1).toNatClampNeg))] ++ (wL cI cJ a.1 (lu_run T (xs (nI i + 1).toNatClampNeg)).1 ++ (wL cI cJ a.2.1 (lu_run T (xs (nI i + 1).toNatClampNeg)).2.1 ++ wL cI cJ a.2.2 (lu_run T (xs (nI i + 1).toNatClampNeg)).2.2))) ++ (wM cI cJ cZ am (runM M (xs (nI i + 1).toNatClampNeg)))) := pe_m _ _ _ _ _
  refine lw_Ri2 (w1 := (wG cI cJ cO adU (lo_run uo bs (xs (nI i + 1).toNatClampNeg)) adB adA lf (lb_run bs (xs (nI i + 1).toNatClampNeg)) a (lu_run T (xs (nI i + 1).toNatClampNeg)) (wM cI cJ cZ am (runM M (xs (nI i + 1).toNatClampNeg))))) (wl := ([zX5 adB adA (lb_run bs (xs (nI i + 1).toNatClampNeg)), zAL cO adA 3 lf, zAJ cJ adU 1 (lo_run uo bs (xs (nI i + 1).toNatClampNeg))] ++ (wL cI cJ a.1 (lu_run T (xs (nI i + 1).toNatClampNeg)).1 ++ (wL cI cJ a.2.1 (lu_run T (xs (nI i + 1).toNatClampNeg)).2.1 ++ wL cI cJ a.2.2 (lu_run T (xs (nI i + 1).toNatClampNeg)).2.2)))) (wr := (wM cI cJ cZ am (runM M (xs (nI i + 1).toNatClampNeg)))) (wq := (wM cI cJ cZ am (um_thrown (runM M (xs (nI i + 1).toNatClampNeg))))) (rv := (rm_thrown (runM M (xs (nI i + 1).toNatClampNeg)))) (rest := []) (va_runV (As := []) (rest := []) ⟨hx, hb, hml, hown, hts⟩ (d_X6_thrown l dC dI cI cJ cZ cO am (runM M (xs (nI i + 1).toNatClampNeg)) _) (cwV 0 hts (gd_V wd_4_184 wd_4_185 wd_4_186 wd_1_7 wd_4_187) rfl rfl rfl (by decide +kernel) ⟨Nat.le_of_ble_eq_true rfl, Nat.le_of_ble_eq_true rfl⟩) (lw_Rq (ci := 6) (q := (RX6, TX6, 42)) (q0 := 0) rfl rfl gU_c (fun _ _ _ => trivial) hK hp hP hD) rfl rfl hl.1 rfl (lv_room (Nat.le_of_ble_eq_true rfl)) dL_law_970 ⟨by show cells + 8 + 0 ≤ 650651; omega, by show slots + 64 + 0 ≤ 7144151; omega⟩) hp (pe_m _ _ _ _ _) hP hD hS hA (fun H locs hP hD hS => ?_)
  refine lv_iload hx hb dL_law_973 (lv_at hl 1 rfl) ?_
  refine lv_icmp_eq (tgt := 980) hx hb dL_law_975 (by decide) (fun h9 => ?_) (fun h9 => absurd r1 h9)
  refine lv_iload hx hb dL_law_980 (lv_at hl 1 rfl) ?_
  refine lv_if_ne (tgt := 997) hx hb dL_law_982 (by decide) (fun h8 => ?_) (fun h8 => ?_)
  · refine lv_goto (tgt := 1881) hx hb dL_law_997 (by decide) ?_
    exact kk _ _ _ _ H locs ls r3 hP hD hS (lv_sub hl [2, 3, 4, 5, 6] rfl)
  · skip
    refine lv_aload_n hx hb dL_law_985 rfl (lv_at hl 6 rfl) ?_
    refine lv_iconst (v := 0) hx hb dL_law_986 (by decide) ?_
    refine va_lald hx hb hK hP 2 1 rfl rfl (i := (0 : Int32)) (ix_d (by decide)) dL_law_987 ?_
    refine lv_iload hx hb dL_law_988 (lv_at hl 0 rfl) ?_
    refine lv_i2l hx hb dL_law_990 rfl ?_
    refine hh_ceq (tgt := 997) hx hb dL_law_991 dL_law_992 (by decide) (fun h7 => ?_) (fun h7 => absurd (r2 h8) h7)
    refine lv_goto (tgt := 1881) hx hb dL_law_997 (by decide) ?_
    exact kk _ _ _ _ H locs ls r3 hP hD hS (lv_sub hl [2, 3, 4, 5, 6] rfl)
set_option maxHeartbeats 4000000 in
theorem k_measure (K : KX p l s m meth c b L xs (dC, dI) cI cJ cZ cO lf a) (hR : Rel T bs M) (hi : i + 6 ≤ L) (hc : cells + 8 ≤ 650651) (hs : slots + 64 ≤ 7144151) (hP : va_P (dC, dI) vwCl (wG cI cJ cO adU uo adB adA lf bs a T (wM cI cJ cZ am M)) H) (hD : va_D (fun q => s.heap.size ≤ q) (wG cI cJ cO adU uo adB adA lf bs a T (wM cI cJ cZ am M))) (hS : va_S (fun q => s.heap.size ≤ q) s.heap H locs) (hl : lv_has ls 8 [(4, .int (nI i)), (0, .ref b), (1, .ref adB), (2, .ref (yq_adM am)), (3, .ref adU)])
    (kk : ∀ (uo : Nat → Int64) (bs : Int32) (T : LT × LT × LT) (M : MT) (H : Heap) (locs : List Loc) (ls : Array Slot), Rel T bs M → va_P (dC, dI) vwCl (wG cI cJ cO adU uo adB adA lf bs a T (wM cI cJ cZ am M)) H → va_D (fun q => s.heap.size ≤ q) (wG cI cJ cO adU uo adB adA lf bs a T (wM cI cJ cZ am M)) → va_S (fun q => s.heap.size ≤ q) s.heap H locs → lv_has ls 8 [(4, .int (nI i)), (0, .ref b), (1, .ref adB), (2, .ref (yq_adM am)), (3, .ref adU)] → W p l e room_1 s m #[Value.ref b] below meth c H locs (cells + 8) (slots + 64) Q (F0 m 1881 ls [])) : W p l e room_1 s m #[Value.ref b] below meth c H locs cells slots Q (F0 m 1000 ls []) := by
  obtain ⟨hx, hb, hr, hml, hown, hts, hX, hbl, hlocks, hG, hfl, hK, hf0, hf1, hf2, hL⟩ := id K
  have hA : ∀ q : Nat, s.heap.size ≤ q → (fun q => s.heap.size ≤ q) q := fun _ h => h
  have hbA : ¬ (fun q => s.heap.size ≤ q) b := Nat.not_le.mpr hbl
  obtain ⟨r1, r2, r3⟩ := rel_measure hR (xs (nI i + 1).toNatClampNeg) uo
  refine lv_aload_n hx hb dL_law_1000 rfl (lv_at hl 2 rfl) ?_
  refine lv_aload_n hx hb dL_law_1001 rfl (lv_at hl 1 rfl) ?_
  refine lv_iload hx hb dL_law_1002 (lv_at hl 0 rfl) ?_
  refine lv_iconst (v := 1) hx hb dL_law_1004 (by decide) ?_
  refine lv_iadd hx hb dL_law_1005 ?_
  refine va_sld hx hb hX hbl hbA hS (lw_in (j := 1) (by decide) hi hL) dL_law_1006 ?_
  refine lv_aload_n hx hb dL_law_1007 rfl (lv_at hl 4 rfl) ?_
  refine s_measure K (xs (nI i + 1).toNatClampNeg)  hc hs hP hD hS hl.1 dL_law_1008 (fun H locs hP hD hS => ?_)
  refine lv_istore (lv' := [(5, .int (ofL T (xs (nI i + 1).toNatClampNeg) (fun s => lr_measure s ) 1)), (4, .int (nI i)), (0, .ref b), (1, .ref adB), (2, .ref (yq_adM am)), (3, .ref adU)]) hx hb dL_law_1011 hl (by decide) rfl (fun ls hl => ?_)
  refine lv_aload_n hx hb dL_law_1013 rfl (lv_at hl 4 rfl) ?_
  refine lv_aload_n hx hb dL_law_1014 rfl (lv_at hl 2 rfl) ?_
  refine lv_iload hx hb dL_law_1015 (lv_at hl 1 rfl) ?_
  refine lv_iconst (v := 1) hx hb dL_law_1017 (by decide) ?_
  refine lv_iadd hx hb dL_law_1018 ?_
  refine va_sld hx hb hX hbl hbA hS (lw_in (j := 1) (by decide) hi hL) dL_law_1019 ?_
  have hp : (wG cI cJ cO adU (ofL T (xs (nI i + 1).toNatClampNeg) (fun s => lo_measure s uo ) uo) adB adA lf bs a (onL T (xs (nI i + 1).toNatClampNeg) (fun s => lu_measure s )) (wM cI cJ cZ am M)).Perm (([zX5 adB adA bs, zAL cO adA 3 lf, zAJ cJ adU 1 (ofL T (xs (nI i + 1).toNatClampNeg) (fun s => lo_measure s uo ) uo)] ++ (wL cI cJ a.1 (onL T (xs (nI i + 1).toNatClampNeg) (fun s => lu_measure s )).1 ++ (wL cI cJ a.2.1 (onL T (xs (nI i + 1).toNatClampNeg) (fun s => lu_measure s )).2.1 ++ wL cI cJ a.2.2 (onL T (xs (nI i + 1).toNatClampNeg) (fun s => lu_measure s )).2.2))) ++ (wM cI cJ cZ am M)) := pe_m _ _ _ _ _
  refine lw_Rl2 (w1 := (wG cI cJ cO adU (ofL T (xs (nI i + 1).toNatClampNeg) (fun s => lo_measure s uo ) uo) adB adA lf bs a (onL T (xs (nI i + 1).toNatClampNeg) (fun s => lu_measure s )) (wM cI cJ cZ am (um_measure M (xs (nI i + 1).toNatClampNeg))))) (wl := ([zX5 adB adA bs, zAL cO adA 3 lf, zAJ cJ adU 1 (ofL T (xs (nI i + 1).toNatClampNeg) (fun s => lo_measure s uo ) uo)] ++ (wL cI cJ a.1 (onL T (xs (nI i + 1).toNatClampNeg) (fun s => lu_measure s )).1 ++ (wL cI cJ a.2.1 (onL T (xs (nI i + 1).toNatClampNeg) (fun s => lu_measure s )).2.1 ++ wL cI cJ a.2.2 (onL T (xs (nI i + 1).toNatClampNeg) (fun s => lu_measure s )).2.2)))) (wr := (wM cI cJ cZ am M)) (wq := (wM cI cJ cZ am (um_measure M (xs (nI i + 1).toNatClampNeg)))) (rv := (rm_measure M (xs (nI i + 1).toNatClampNeg))) (rest := []) (va_runV (As := [.int (xs (nI i + 1).toNatClampNeg)]) (rest := []) ⟨hx, hb, hml, hown, hts⟩ (d_X6_measure l dC dI cI cJ cZ cO am M (xs (nI i + 1).toNatClampNeg) _ ) (cwV 1 hts (gd_V wd_5_61 wd_5_62 wd_5_63 wd_1_7 wd_5_64) rfl rfl rfl (by decide +kernel) ⟨Nat.le_of_ble_eq_true rfl, Nat.le_of_ble_eq_true rfl⟩) (lw_Rq (ci := 6) (q := (RX6, TX6, 42)) (q0 := 0) rfl rfl gU_c (fun _ _ _ => trivial) hK hp hP hD) rfl rfl hl.1 rfl (lv_room (Nat.le_of_ble_eq_true rfl)) dL_law_1020 ⟨by show cells + 8 + 0 ≤ 650651; omega, by show slots + 64 + 0 ≤ 7144151; omega⟩) hp (pe_m _ _ _ _ _) hP hD hS hA (fun H locs hP hD hS => ?_)
  refine lv_lstore (lv' := [(6, .long (rm_measure M (xs (nI i + 1).toNatClampNeg))), (5, .int (ofL T (xs (nI i + 1).toNatClampNeg) (fun s => lr_measure s ) 1)), (4, .int (nI i)), (0, .ref b), (1, .ref adB), (2, .ref (yq_adM am)), (3, .ref adU)]) hx hb dL_law_1023 hl (by decide) rfl (fun ls hl => ?_)
  refine lv_aload_n hx hb dL_law_1025 rfl (lv_at hl 5 rfl) ?_
  have hp : (wG cI cJ cO adU (ofL T (xs (nI i + 1).toNatClampNeg) (fun s => lo_measure s uo ) uo) adB adA lf bs a (onL T (xs (nI i + 1).toNatClampNeg) (fun s => lu_measure s )) (wM cI cJ cZ am (um_measure M (xs (nI i + 1).toNatClampNeg)))).Perm (([zX5 adB adA bs, zAL cO adA 3 lf, zAJ cJ adU 1 (ofL T (xs (nI i + 1).toNatClampNeg) (fun s => lo_measure s uo ) uo)] ++ (wL cI cJ a.1 (onL T (xs (nI i + 1).toNatClampNeg) (fun s => lu_measure s )).1 ++ (wL cI cJ a.2.1 (onL T (xs (nI i + 1).toNatClampNeg) (fun s => lu_measure s )).2.1 ++ wL cI cJ a.2.2 (onL T (xs (nI i + 1).toNatClampNeg) (fun s => lu_measure s )).2.2))) ++ (wM cI cJ cZ am (um_measure M (xs (nI i + 1).toNatClampNeg)))) := pe_m _ _ _ _ _
  refine lw_Ri2 (w1 := (wG cI cJ cO adU (ofL T (xs (nI i + 1).toNatClampNeg) (fun s => lo_measure s uo ) uo) adB adA lf bs a (onL T (xs (nI i + 1).toNatClampNeg) (fun s => lu_measure s )) (wM cI cJ cZ am (um_measure M (xs (nI i + 1).toNatClampNeg))))) (wl := ([zX5 adB adA bs, zAL cO adA 3 lf, zAJ cJ adU 1 (ofL T (xs (nI i + 1).toNatClampNeg) (fun s => lo_measure s uo ) uo)] ++ (wL cI cJ a.1 (onL T (xs (nI i + 1).toNatClampNeg) (fun s => lu_measure s )).1 ++ (wL cI cJ a.2.1 (onL T (xs (nI i + 1).toNatClampNeg) (fun s => lu_measure s )).2.1 ++ wL cI cJ a.2.2 (onL T (xs (nI i + 1).toNatClampNeg) (fun s => lu_measure s )).2.2)))) (wr := (wM cI cJ cZ am (um_measure M (xs (nI i + 1).toNatClampNeg)))) (wq := (wM cI cJ cZ am (um_thrown (um_measure M (xs (nI i + 1).toNatClampNeg))))) (rv := (rm_thrown (um_measure M (xs (nI i + 1).toNatClampNeg)))) (rest := []) (va_runV (As := []) (rest := []) ⟨hx, hb, hml, hown, hts⟩ (d_X6_thrown l dC dI cI cJ cZ cO am (um_measure M (xs (nI i + 1).toNatClampNeg)) _) (cwV 0 hts (gd_V wd_4_184 wd_4_185 wd_4_186 wd_1_7 wd_4_187) rfl rfl rfl (by decide +kernel) ⟨Nat.le_of_ble_eq_true rfl, Nat.le_of_ble_eq_true rfl⟩) (lw_Rq (ci := 6) (q := (RX6, TX6, 42)) (q0 := 0) rfl rfl gU_c (fun _ _ _ => trivial) hK hp hP hD) rfl rfl hl.1 rfl (lv_room (Nat.le_of_ble_eq_true rfl)) dL_law_1026 ⟨by show cells + 8 + 0 ≤ 650651; omega, by show slots + 64 + 0 ≤ 7144151; omega⟩) hp (pe_m _ _ _ _ _) hP hD hS hA (fun H locs hP hD hS => ?_)
  refine lv_iload hx hb dL_law_1029 (lv_at hl 1 rfl) ?_
  refine lv_icmp_eq (tgt := 1036) hx hb dL_law_1031 (by decide) (fun h9 => ?_) (fun h9 => absurd r1 h9)
  refine lv_iload hx hb dL_law_1036 (lv_at hl 1 rfl) ?_
  refine lv_if_ne (tgt := 1052) hx hb dL_law_1038 (by decide) (fun h8 => ?_) (fun h8 => ?_)
  · refine lv_goto (tgt := 1881) hx hb dL_law_1052 (by decide) ?_
    exact kk _ _ _ _ H locs ls r3 hP hD hS (lv_sub hl [2, 3, 4, 5, 6] rfl)
  · skip
    refine lv_aload_n hx hb dL_law_1041 rfl (lv_at hl 6 rfl) ?_
    refine lv_iconst (v := 0) hx hb dL_law_1042 (by decide) ?_
    refine va_lald hx hb hK hP 2 1 rfl rfl (i := (0 : Int32)) (ix_d (by decide)) dL_law_1043 ?_
    refine lv_lload hx hb dL_law_1044 (lv_at hl 0 rfl) ?_
    refine hh_ceq (tgt := 1052) hx hb dL_law_1046 dL_law_1047 (by decide) (fun h7 => ?_) (fun h7 => absurd (r2 h8) h7)
    refine lv_goto (tgt := 1881) hx hb dL_law_1052 (by decide) ?_
    exact kk _ _ _ _ H locs ls r3 hP hD hS (lv_sub hl [2, 3, 4, 5, 6] rfl)
set_option maxHeartbeats 4000000 in
theorem k_output (K : KX p l s m meth c b L xs (dC, dI) cI cJ cZ cO lf a) (hR : Rel T bs M) (hi : i + 6 ≤ L) (hc : cells + 8 ≤ 650651) (hs : slots + 64 ≤ 7144151) (hP : va_P (dC, dI) vwCl (wG cI cJ cO adU uo adB adA lf bs a T (wM cI cJ cZ am M)) H) (hD : va_D (fun q => s.heap.size ≤ q) (wG cI cJ cO adU uo adB adA lf bs a T (wM cI cJ cZ am M))) (hS : va_S (fun q => s.heap.size ≤ q) s.heap H locs) (hl : lv_has ls 8 [(4, .int (nI i)), (0, .ref b), (1, .ref adB), (2, .ref (yq_adM am)), (3, .ref adU)])
    (kk : ∀ (uo : Nat → Int64) (bs : Int32) (T : LT × LT × LT) (M : MT) (H : Heap) (locs : List Loc) (ls : Array Slot), Rel T bs M → va_P (dC, dI) vwCl (wG cI cJ cO adU uo adB adA lf bs a T (wM cI cJ cZ am M)) H → va_D (fun q => s.heap.size ≤ q) (wG cI cJ cO adU uo adB adA lf bs a T (wM cI cJ cZ am M)) → va_S (fun q => s.heap.size ≤ q) s.heap H locs → lv_has ls 8 [(4, .int (nI i)), (0, .ref b), (1, .ref adB), (2, .ref (yq_adM am)), (3, .ref adU)] → W p l e room_1 s m #[Value.ref b] below meth c H locs (cells + 8) (slots + 64) Q (F0 m 1881 ls [])) : W p l e room_1 s m #[Value.ref b] below meth c H locs cells slots Q (F0 m 1055 ls []) := by
  obtain ⟨hx, hb, hr, hml, hown, hts, hX, hbl, hlocks, hG, hfl, hK, hf0, hf1, hf2, hL⟩ := id K
  have hA : ∀ q : Nat, s.heap.size ≤ q → (fun q => s.heap.size ≤ q) q := fun _ h => h
  have hbA : ¬ (fun q => s.heap.size ≤ q) b := Nat.not_le.mpr hbl
  obtain ⟨r1, r2, r3⟩ := rel_output hR (xs (nI i + 1).toNatClampNeg) uo
  refine lv_aload_n hx hb dL_law_1055 rfl (lv_at hl 2 rfl) ?_
  refine lv_aload_n hx hb dL_law_1056 rfl (lv_at hl 1 rfl) ?_
  refine lv_iload hx hb dL_law_1057 (lv_at hl 0 rfl) ?_
  refine lv_iconst (v := 1) hx hb dL_law_1059 (by decide) ?_
  refine lv_iadd hx hb dL_law_1060 ?_
  refine va_sld hx hb hX hbl hbA hS (lw_in (j := 1) (by decide) hi hL) dL_law_1061 ?_
  refine lv_aload_n hx hb dL_law_1062 rfl (lv_at hl 4 rfl) ?_
  refine s_output K (xs (nI i + 1).toNatClampNeg)  hc hs hP hD hS hl.1 dL_law_1063 (fun H locs hP hD hS => ?_)
  refine lv_istore (lv' := [(5, .int (ofL T (xs (nI i + 1).toNatClampNeg) (fun s => lr_output s ) 1)), (4, .int (nI i)), (0, .ref b), (1, .ref adB), (2, .ref (yq_adM am)), (3, .ref adU)]) hx hb dL_law_1066 hl (by decide) rfl (fun ls hl => ?_)
  refine lv_aload_n hx hb dL_law_1068 rfl (lv_at hl 4 rfl) ?_
  refine lv_aload_n hx hb dL_law_1069 rfl (lv_at hl 2 rfl) ?_
  refine lv_iload hx hb dL_law_1070 (lv_at hl 1 rfl) ?_
  refine lv_iconst (v := 1) hx hb dL_law_1072 (by decide) ?_
  refine lv_iadd hx hb dL_law_1073 ?_
  refine va_sld hx hb hX hbl hbA hS (lw_in (j := 1) (by decide) hi hL) dL_law_1074 ?_
  have hp : (wG cI cJ cO adU (ofL T (xs (nI i + 1).toNatClampNeg) (fun s => lo_output s uo ) uo) adB adA lf bs a (onL T (xs (nI i + 1).toNatClampNeg) (fun s => lu_output s )) (wM cI cJ cZ am M)).Perm (([zX5 adB adA bs, zAL cO adA 3 lf, zAJ cJ adU 1 (ofL T (xs (nI i + 1).toNatClampNeg) (fun s => lo_output s uo ) uo)] ++ (wL cI cJ a.1 (onL T (xs (nI i + 1).toNatClampNeg) (fun s => lu_output s )).1 ++ (wL cI cJ a.2.1 (onL T (xs (nI i + 1).toNatClampNeg) (fun s => lu_output s )).2.1 ++ wL cI cJ a.2.2 (onL T (xs (nI i + 1).toNatClampNeg) (fun s => lu_output s )).2.2))) ++ (wM cI cJ cZ am M)) := pe_m _ _ _ _ _
  refine lw_Rl2 (w1 := (wG cI cJ cO adU (ofL T (xs (nI i + 1).toNatClampNeg) (fun s => lo_output s uo ) uo) adB adA lf bs a (onL T (xs (nI i + 1).toNatClampNeg) (fun s => lu_output s )) (wM cI cJ cZ am (um_output M (xs (nI i + 1).toNatClampNeg))))) (wl := ([zX5 adB adA bs, zAL cO adA 3 lf, zAJ cJ adU 1 (ofL T (xs (nI i + 1).toNatClampNeg) (fun s => lo_output s uo ) uo)] ++ (wL cI cJ a.1 (onL T (xs (nI i + 1).toNatClampNeg) (fun s => lu_output s )).1 ++ (wL cI cJ a.2.1 (onL T (xs (nI i + 1).toNatClampNeg) (fun s => lu_output s )).2.1 ++ wL cI cJ a.2.2 (onL T (xs (nI i + 1).toNatClampNeg) (fun s => lu_output s )).2.2)))) (wr := (wM cI cJ cZ am M)) (wq := (wM cI cJ cZ am (um_output M (xs (nI i + 1).toNatClampNeg)))) (rv := (rm_output M (xs (nI i + 1).toNatClampNeg))) (rest := []) (va_runV (As := [.int (xs (nI i + 1).toNatClampNeg)]) (rest := []) ⟨hx, hb, hml, hown, hts⟩ (d_X6_output l dC dI cI cJ cZ cO am M (xs (nI i + 1).toNatClampNeg) _ ) (cwV 1 hts (gd_V wd_5_69 wd_5_70 wd_5_71 wd_1_7 wd_5_72) rfl rfl rfl (by decide +kernel) ⟨Nat.le_of_ble_eq_true rfl, Nat.le_of_ble_eq_true rfl⟩) (lw_Rq (ci := 6) (q := (RX6, TX6, 42)) (q0 := 0) rfl rfl gU_c (fun _ _ _ => trivial) hK hp hP hD) rfl rfl hl.1 rfl (lv_room (Nat.le_of_ble_eq_true rfl)) dL_law_1075 ⟨by show cells + 8 + 0 ≤ 650651; omega, by show slots + 64 + 0 ≤ 7144151; omega⟩) hp (pe_m _ _ _ _ _) hP hD hS hA (fun H locs hP hD hS => ?_)
  refine lv_lstore (lv' := [(6, .long (rm_output M (xs (nI i + 1).toNatClampNeg))), (5, .int (ofL T (xs (nI i + 1).toNatClampNeg) (fun s => lr_output s ) 1)), (4, .int (nI i)), (0, .ref b), (1, .ref adB), (2, .ref (yq_adM am)), (3, .ref adU)]) hx hb dL_law_1078 hl (by decide) rfl (fun ls hl => ?_)
  refine lv_aload_n hx hb dL_law_1080 rfl (lv_at hl 5 rfl) ?_
  have hp : (wG cI cJ cO adU (ofL T (xs (nI i + 1).toNatClampNeg) (fun s => lo_output s uo ) uo) adB adA lf bs a (onL T (xs (nI i + 1).toNatClampNeg) (fun s => lu_output s )) (wM cI cJ cZ am (um_output M (xs (nI i + 1).toNatClampNeg)))).Perm (([zX5 adB adA bs, zAL cO adA 3 lf, zAJ cJ adU 1 (ofL T (xs (nI i + 1).toNatClampNeg) (fun s => lo_output s uo ) uo)] ++ (wL cI cJ a.1 (onL T (xs (nI i + 1).toNatClampNeg) (fun s => lu_output s )).1 ++ (wL cI cJ a.2.1 (onL T (xs (nI i + 1).toNatClampNeg) (fun s => lu_output s )).2.1 ++ wL cI cJ a.2.2 (onL T (xs (nI i + 1).toNatClampNeg) (fun s => lu_output s )).2.2))) ++ (wM cI cJ cZ am (um_output M (xs (nI i + 1).toNatClampNeg)))) := pe_m _ _ _ _ _
  refine lw_Ri2 (w1 := (wG cI cJ cO adU (ofL T (xs (nI i + 1).toNatClampNeg) (fun s => lo_output s uo ) uo) adB adA lf bs a (onL T (xs (nI i + 1).toNatClampNeg) (fun s => lu_output s )) (wM cI cJ cZ am (um_output M (xs (nI i + 1).toNatClampNeg))))) (wl := ([zX5 adB adA bs, zAL cO adA 3 lf, zAJ cJ adU 1 (ofL T (xs (nI i + 1).toNatClampNeg) (fun s => lo_output s uo ) uo)] ++ (wL cI cJ a.1 (onL T (xs (nI i + 1).toNatClampNeg) (fun s => lu_output s )).1 ++ (wL cI cJ a.2.1 (onL T (xs (nI i + 1).toNatClampNeg) (fun s => lu_output s )).2.1 ++ wL cI cJ a.2.2 (onL T (xs (nI i + 1).toNatClampNeg) (fun s => lu_output s )).2.2)))) (wr := (wM cI cJ cZ am (um_output M (xs (nI i + 1).toNatClampNeg)))) (wq := (wM cI cJ cZ am (um_thrown (um_output M (xs (nI i + 1).toNatClampNeg))))) (rv := (rm_thrown (um_output M (xs (nI i + 1).toNatClampNeg)))) (rest := []) (va_runV (As := []) (rest := []) ⟨hx, hb, hml, hown, hts⟩ (d_X6_thrown l dC dI cI cJ cZ cO am (um_output M (xs (nI i + 1).toNatClampNeg)) _) (cwV 0 hts (gd_V wd_4_184 wd_4_185 wd_4_186 wd_1_7 wd_4_187) rfl rfl rfl (by decide +kernel) ⟨Nat.le_of_ble_eq_true rfl, Nat.le_of_ble_eq_true rfl⟩) (lw_Rq (ci := 6) (q := (RX6, TX6, 42)) (q0 := 0) rfl rfl gU_c (fun _ _ _ => trivial) hK hp hP hD) rfl rfl hl.1 rfl (lv_room (Nat.le_of_ble_eq_true rfl)) dL_law_1081 ⟨by show cells + 8 + 0 ≤ 650651; omega, by show slots + 64 + 0 ≤ 7144151; omega⟩) hp (pe_m _ _ _ _ _) hP hD hS hA (fun H locs hP hD hS => ?_)
  refine lv_iload hx hb dL_law_1084 (lv_at hl 1 rfl) ?_
  refine lv_icmp_eq (tgt := 1091) hx hb dL_law_1086 (by decide) (fun h9 => ?_) (fun h9 => absurd r1 h9)
  refine lv_iload hx hb dL_law_1091 (lv_at hl 1 rfl) ?_
  refine lv_if_ne (tgt := 1107) hx hb dL_law_1093 (by decide) (fun h8 => ?_) (fun h8 => ?_)
  · refine lv_goto (tgt := 1881) hx hb dL_law_1107 (by decide) ?_
    exact kk _ _ _ _ H locs ls r3 hP hD hS (lv_sub hl [2, 3, 4, 5, 6] rfl)
  · skip
    refine lv_aload_n hx hb dL_law_1096 rfl (lv_at hl 6 rfl) ?_
    refine lv_iconst (v := 0) hx hb dL_law_1097 (by decide) ?_
    refine va_lald hx hb hK hP 2 1 rfl rfl (i := (0 : Int32)) (ix_d (by decide)) dL_law_1098 ?_
    refine lv_lload hx hb dL_law_1099 (lv_at hl 0 rfl) ?_
    refine hh_ceq (tgt := 1107) hx hb dL_law_1101 dL_law_1102 (by decide) (fun h7 => ?_) (fun h7 => absurd (r2 h8) h7)
    refine lv_goto (tgt := 1881) hx hb dL_law_1107 (by decide) ?_
    exact kk _ _ _ _ H locs ls r3 hP hD hS (lv_sub hl [2, 3, 4, 5, 6] rfl)
set_option maxHeartbeats 4000000 in
theorem k_outputByIncrements (K : KX p l s m meth c b L xs (dC, dI) cI cJ cZ cO lf a) (hR : Rel T bs M) (hi : i + 6 ≤ L) (hc : cells + 8 ≤ 650651) (hs : slots + 64 ≤ 7144151) (hP : va_P (dC, dI) vwCl (wG cI cJ cO adU uo adB adA lf bs a T (wM cI cJ cZ am M)) H) (hD : va_D (fun q => s.heap.size ≤ q) (wG cI cJ cO adU uo adB adA lf bs a T (wM cI cJ cZ am M))) (hS : va_S (fun q => s.heap.size ≤ q) s.heap H locs) (hl : lv_has ls 8 [(4, .int (nI i)), (0, .ref b), (1, .ref adB), (2, .ref (yq_adM am)), (3, .ref adU)])
    (kk : ∀ (uo : Nat → Int64) (bs : Int32) (T : LT × LT × LT) (M : MT) (H : Heap) (locs : List Loc) (ls : Array Slot), Rel T bs M → va_P (dC, dI) vwCl (wG cI cJ cO adU uo adB adA lf bs a T (wM cI cJ cZ am M)) H → va_D (fun q => s.heap.size ≤ q) (wG cI cJ cO adU uo adB adA lf bs a T (wM cI cJ cZ am M)) → va_S (fun q => s.heap.size ≤ q) s.heap H locs → lv_has ls 8 [(4, .int (nI i)), (0, .ref b), (1, .ref adB), (2, .ref (yq_adM am)), (3, .ref adU)] → W p l e room_1 s m #[Value.ref b] below meth c H locs (cells + 8) (slots + 64) Q (F0 m 1881 ls [])) : W p l e room_1 s m #[Value.ref b] below meth c H locs cells slots Q (F0 m 1110 ls []) := by
  obtain ⟨hx, hb, hr, hml, hown, hts, hX, hbl, hlocks, hG, hfl, hK, hf0, hf1, hf2, hL⟩ := id K
  have hA : ∀ q : Nat, s.heap.size ≤ q → (fun q => s.heap.size ≤ q) q := fun _ h => h
  have hbA : ¬ (fun q => s.heap.size ≤ q) b := Nat.not_le.mpr hbl
  obtain ⟨r1, r2, r3⟩ := rel_outputByIncrements hR (xs (nI i + 1).toNatClampNeg) uo
  refine lv_aload_n hx hb dL_law_1110 rfl (lv_at hl 2 rfl) ?_
  refine lv_aload_n hx hb dL_law_1111 rfl (lv_at hl 1 rfl) ?_
  refine lv_iload hx hb dL_law_1112 (lv_at hl 0 rfl) ?_
  refine lv_iconst (v := 1) hx hb dL_law_1114 (by decide) ?_
  refine lv_iadd hx hb dL_law_1115 ?_
  refine va_sld hx hb hX hbl hbA hS (lw_in (j := 1) (by decide) hi hL) dL_law_1116 ?_
  refine lv_aload_n hx hb dL_law_1117 rfl (lv_at hl 4 rfl) ?_
  refine s_outputByIncrements K (xs (nI i + 1).toNatClampNeg)  hc hs hP hD hS hl.1 dL_law_1118 (fun H locs hP hD hS => ?_)
  refine lv_istore (lv' := [(5, .int (ofL T (xs (nI i + 1).toNatClampNeg) (fun s => lr_outputByIncrements s ) 1)), (4, .int (nI i)), (0, .ref b), (1, .ref adB), (2, .ref (yq_adM am)), (3, .ref adU)]) hx hb dL_law_1121 hl (by decide) rfl (fun ls hl => ?_)
  refine lv_aload_n hx hb dL_law_1123 rfl (lv_at hl 4 rfl) ?_
  refine lv_aload_n hx hb dL_law_1124 rfl (lv_at hl 2 rfl) ?_
  refine lv_iload hx hb dL_law_1125 (lv_at hl 1 rfl) ?_
  refine lv_iconst (v := 1) hx hb dL_law_1127 (by decide) ?_
  refine lv_iadd hx hb dL_law_1128 ?_
  refine va_sld hx hb hX hbl hbA hS (lw_in (j := 1) (by decide) hi hL) dL_law_1129 ?_
  have hp : (wG cI cJ cO adU (ofL T (xs (nI i + 1).toNatClampNeg) (fun s => lo_outputByIncrements s uo ) uo) adB adA lf bs a (onL T (xs (nI i + 1).toNatClampNeg) (fun s => lu_outputByIncrements s )) (wM cI cJ cZ am M)).Perm (([zX5 adB adA bs, zAL cO adA 3 lf, zAJ cJ adU 1 (ofL T (xs (nI i + 1).toNatClampNeg) (fun s => lo_outputByIncrements s uo ) uo)] ++ (wL cI cJ a.1 (onL T (xs (nI i + 1).toNatClampNeg) (fun s => lu_outputByIncrements s )).1 ++ (wL cI cJ a.2.1 (onL T (xs (nI i + 1).toNatClampNeg) (fun s => lu_outputByIncrements s )).2.1 ++ wL cI cJ a.2.2 (onL T (xs (nI i + 1).toNatClampNeg) (fun s => lu_outputByIncrements s )).2.2))) ++ (wM cI cJ cZ am M)) := pe_m _ _ _ _ _
  refine lw_Rl2 (w1 := (wG cI cJ cO adU (ofL T (xs (nI i + 1).toNatClampNeg) (fun s => lo_outputByIncrements s uo ) uo) adB adA lf bs a (onL T (xs (nI i + 1).toNatClampNeg) (fun s => lu_outputByIncrements s )) (wM cI cJ cZ am (um_outputByIncrements M (xs (nI i + 1).toNatClampNeg))))) (wl := ([zX5 adB adA bs, zAL cO adA 3 lf, zAJ cJ adU 1 (ofL T (xs (nI i + 1).toNatClampNeg) (fun s => lo_outputByIncrements s uo ) uo)] ++ (wL cI cJ a.1 (onL T (xs (nI i + 1).toNatClampNeg) (fun s => lu_outputByIncrements s )).1 ++ (wL cI cJ a.2.1 (onL T (xs (nI i + 1).toNatClampNeg) (fun s => lu_outputByIncrements s )).2.1 ++ wL cI cJ a.2.2 (onL T (xs (nI i + 1).toNatClampNeg) (fun s => lu_outputByIncrements s )).2.2)))) (wr := (wM cI cJ cZ am M)) (wq := (wM cI cJ cZ am (um_outputByIncrements M (xs (nI i + 1).toNatClampNeg)))) (rv := (rm_outputByIncrements M (xs (nI i + 1).toNatClampNeg))) (rest := []) (va_runV (As := [.int (xs (nI i + 1).toNatClampNeg)]) (rest := []) ⟨hx, hb, hml, hown, hts⟩ (d_X6_outputByIncrements l dC dI cI cJ cZ cO am M (xs (nI i + 1).toNatClampNeg) _ ) (cwV 1 hts (gd_V wd_5_73 wd_5_74 wd_5_75 wd_1_7 wd_5_76) rfl rfl rfl (by decide +kernel) ⟨Nat.le_of_ble_eq_true rfl, Nat.le_of_ble_eq_true rfl⟩) (lw_Rq (ci := 6) (q := (RX6, TX6, 42)) (q0 := 0) rfl rfl gU_c (fun _ _ _ => trivial) hK hp hP hD) rfl rfl hl.1 rfl (lv_room (Nat.le_of_ble_eq_true rfl)) dL_law_1130 ⟨by show cells + 8 + 0 ≤ 650651; omega, by show slots + 64 + 0 ≤ 7144151; omega⟩) hp (pe_m _ _ _ _ _) hP hD hS hA (fun H locs hP hD hS => ?_)
  refine lv_lstore (lv' := [(6, .long (rm_outputByIncrements M (xs (nI i + 1).toNatClampNeg))), (5, .int (ofL T (xs (nI i + 1).toNatClampNeg) (fun s => lr_outputByIncrements s ) 1)), (4, .int (nI i)), (0, .ref b), (1, .ref adB), (2, .ref (yq_adM am)), (3, .ref adU)]) hx hb dL_law_1133 hl (by decide) rfl (fun ls hl => ?_)
  refine lv_aload_n hx hb dL_law_1135 rfl (lv_at hl 5 rfl) ?_
  have hp : (wG cI cJ cO adU (ofL T (xs (nI i + 1).toNatClampNeg) (fun s => lo_outputByIncrements s uo ) uo) adB adA lf bs a (onL T (xs (nI i + 1).toNatClampNeg) (fun s => lu_outputByIncrements s )) (wM cI cJ cZ am (um_outputByIncrements M (xs (nI i + 1).toNatClampNeg)))).Perm (([zX5 adB adA bs, zAL cO adA 3 lf, zAJ cJ adU 1 (ofL T (xs (nI i + 1).toNatClampNeg) (fun s => lo_outputByIncrements s uo ) uo)] ++ (wL cI cJ a.1 (onL T (xs (nI i + 1).toNatClampNeg) (fun s => lu_outputByIncrements s )).1 ++ (wL cI cJ a.2.1 (onL T (xs (nI i + 1).toNatClampNeg) (fun s => lu_outputByIncrements s )).2.1 ++ wL cI cJ a.2.2 (onL T (xs (nI i + 1).toNatClampNeg) (fun s => lu_outputByIncrements s )).2.2))) ++ (wM cI cJ cZ am (um_outputByIncrements M (xs (nI i + 1).toNatClampNeg)))) := pe_m _ _ _ _ _
  refine lw_Ri2 (w1 := (wG cI cJ cO adU (ofL T (xs (nI i + 1).toNatClampNeg) (fun s => lo_outputByIncrements s uo ) uo) adB adA lf bs a (onL T (xs (nI i + 1).toNatClampNeg) (fun s => lu_outputByIncrements s )) (wM cI cJ cZ am (um_outputByIncrements M (xs (nI i + 1).toNatClampNeg))))) (wl := ([zX5 adB adA bs, zAL cO adA 3 lf, zAJ cJ adU 1 (ofL T (xs (nI i + 1).toNatClampNeg) (fun s => lo_outputByIncrements s uo ) uo)] ++ (wL cI cJ a.1 (onL T (xs (nI i + 1).toNatClampNeg) (fun s => lu_outputByIncrements s )).1 ++ (wL cI cJ a.2.1 (onL T (xs (nI i + 1).toNatClampNeg) (fun s => lu_outputByIncrements s )).2.1 ++ wL cI cJ a.2.2 (onL T (xs (nI i + 1).toNatClampNeg) (fun s => lu_outputByIncrements s )).2.2)))) (wr := (wM cI cJ cZ am (um_outputByIncrements M (xs (nI i + 1).toNatClampNeg)))) (wq := (wM cI cJ cZ am (um_thrown (um_outputByIncrements M (xs (nI i + 1).toNatClampNeg))))) (rv := (rm_thrown (um_outputByIncrements M (xs (nI i + 1).toNatClampNeg)))) (rest := []) (va_runV (As := []) (rest := []) ⟨hx, hb, hml, hown, hts⟩ (d_X6_thrown l dC dI cI cJ cZ cO am (um_outputByIncrements M (xs (nI i + 1).toNatClampNeg)) _) (cwV 0 hts (gd_V wd_4_184 wd_4_185 wd_4_186 wd_1_7 wd_4_187) rfl rfl rfl (by decide +kernel) ⟨Nat.le_of_ble_eq_true rfl, Nat.le_of_ble_eq_true rfl⟩) (lw_Rq (ci := 6) (q := (RX6, TX6, 42)) (q0 := 0) rfl rfl gU_c (fun _ _ _ => trivial) hK hp hP hD) rfl rfl hl.1 rfl (lv_room (Nat.le_of_ble_eq_true rfl)) dL_law_1136 ⟨by show cells + 8 + 0 ≤ 650651; omega, by show slots + 64 + 0 ≤ 7144151; omega⟩) hp (pe_m _ _ _ _ _) hP hD hS hA (fun H locs hP hD hS => ?_)
  refine lv_iload hx hb dL_law_1139 (lv_at hl 1 rfl) ?_
  refine lv_icmp_eq (tgt := 1146) hx hb dL_law_1141 (by decide) (fun h9 => ?_) (fun h9 => absurd r1 h9)
  refine lv_iload hx hb dL_law_1146 (lv_at hl 1 rfl) ?_
  refine lv_if_ne (tgt := 1162) hx hb dL_law_1148 (by decide) (fun h8 => ?_) (fun h8 => ?_)
  · refine lv_goto (tgt := 1881) hx hb dL_law_1162 (by decide) ?_
    exact kk _ _ _ _ H locs ls r3 hP hD hS (lv_sub hl [2, 3, 4, 5, 6] rfl)
  · skip
    refine lv_aload_n hx hb dL_law_1151 rfl (lv_at hl 6 rfl) ?_
    refine lv_iconst (v := 0) hx hb dL_law_1152 (by decide) ?_
    refine va_lald hx hb hK hP 2 1 rfl rfl (i := (0 : Int32)) (ix_d (by decide)) dL_law_1153 ?_
    refine lv_lload hx hb dL_law_1154 (lv_at hl 0 rfl) ?_
    refine hh_ceq (tgt := 1162) hx hb dL_law_1156 dL_law_1157 (by decide) (fun h7 => ?_) (fun h7 => absurd (r2 h8) h7)
    refine lv_goto (tgt := 1881) hx hb dL_law_1162 (by decide) ?_
    exact kk _ _ _ _ H locs ls r3 hP hD hS (lv_sub hl [2, 3, 4, 5, 6] rfl)
set_option maxHeartbeats 4000000 in
theorem k_setpoint (K : KX p l s m meth c b L xs (dC, dI) cI cJ cZ cO lf a) (hR : Rel T bs M) (hi : i + 6 ≤ L) (hc : cells + 8 ≤ 650651) (hs : slots + 64 ≤ 7144151) (hP : va_P (dC, dI) vwCl (wG cI cJ cO adU uo adB adA lf bs a T (wM cI cJ cZ am M)) H) (hD : va_D (fun q => s.heap.size ≤ q) (wG cI cJ cO adU uo adB adA lf bs a T (wM cI cJ cZ am M))) (hS : va_S (fun q => s.heap.size ≤ q) s.heap H locs) (hl : lv_has ls 8 [(4, .int (nI i)), (0, .ref b), (1, .ref adB), (2, .ref (yq_adM am)), (3, .ref adU)])
    (kk : ∀ (uo : Nat → Int64) (bs : Int32) (T : LT × LT × LT) (M : MT) (H : Heap) (locs : List Loc) (ls : Array Slot), Rel T bs M → va_P (dC, dI) vwCl (wG cI cJ cO adU uo adB adA lf bs a T (wM cI cJ cZ am M)) H → va_D (fun q => s.heap.size ≤ q) (wG cI cJ cO adU uo adB adA lf bs a T (wM cI cJ cZ am M)) → va_S (fun q => s.heap.size ≤ q) s.heap H locs → lv_has ls 8 [(4, .int (nI i)), (0, .ref b), (1, .ref adB), (2, .ref (yq_adM am)), (3, .ref adU)] → W p l e room_1 s m #[Value.ref b] below meth c H locs (cells + 8) (slots + 64) Q (F0 m 1881 ls [])) : W p l e room_1 s m #[Value.ref b] below meth c H locs cells slots Q (F0 m 1165 ls []) := by
  obtain ⟨hx, hb, hr, hml, hown, hts, hX, hbl, hlocks, hG, hfl, hK, hf0, hf1, hf2, hL⟩ := id K
  have hA : ∀ q : Nat, s.heap.size ≤ q → (fun q => s.heap.size ≤ q) q := fun _ h => h
  have hbA : ¬ (fun q => s.heap.size ≤ q) b := Nat.not_le.mpr hbl
  obtain ⟨r1, r2, r3⟩ := rel_setpoint hR (xs (nI i + 1).toNatClampNeg) uo
  refine lv_aload_n hx hb dL_law_1165 rfl (lv_at hl 2 rfl) ?_
  refine lv_aload_n hx hb dL_law_1166 rfl (lv_at hl 1 rfl) ?_
  refine lv_iload hx hb dL_law_1167 (lv_at hl 0 rfl) ?_
  refine lv_iconst (v := 1) hx hb dL_law_1169 (by decide) ?_
  refine lv_iadd hx hb dL_law_1170 ?_
  refine va_sld hx hb hX hbl hbA hS (lw_in (j := 1) (by decide) hi hL) dL_law_1171 ?_
  refine lv_aload_n hx hb dL_law_1172 rfl (lv_at hl 4 rfl) ?_
  refine s_setpoint K (xs (nI i + 1).toNatClampNeg)  hc hs hP hD hS hl.1 dL_law_1173 (fun H locs hP hD hS => ?_)
  refine lv_istore (lv' := [(5, .int (ofL T (xs (nI i + 1).toNatClampNeg) (fun s => lr_setpoint s ) 1)), (4, .int (nI i)), (0, .ref b), (1, .ref adB), (2, .ref (yq_adM am)), (3, .ref adU)]) hx hb dL_law_1176 hl (by decide) rfl (fun ls hl => ?_)
  refine lv_aload_n hx hb dL_law_1178 rfl (lv_at hl 4 rfl) ?_
  refine lv_aload_n hx hb dL_law_1179 rfl (lv_at hl 2 rfl) ?_
  refine lv_iload hx hb dL_law_1180 (lv_at hl 1 rfl) ?_
  refine lv_iconst (v := 1) hx hb dL_law_1182 (by decide) ?_
  refine lv_iadd hx hb dL_law_1183 ?_
  refine va_sld hx hb hX hbl hbA hS (lw_in (j := 1) (by decide) hi hL) dL_law_1184 ?_
  have hp : (wG cI cJ cO adU (ofL T (xs (nI i + 1).toNatClampNeg) (fun s => lo_setpoint s uo ) uo) adB adA lf bs a (onL T (xs (nI i + 1).toNatClampNeg) (fun s => lu_setpoint s )) (wM cI cJ cZ am M)).Perm (([zX5 adB adA bs, zAL cO adA 3 lf, zAJ cJ adU 1 (ofL T (xs (nI i + 1).toNatClampNeg) (fun s => lo_setpoint s uo ) uo)] ++ (wL cI cJ a.1 (onL T (xs (nI i + 1).toNatClampNeg) (fun s => lu_setpoint s )).1 ++ (wL cI cJ a.2.1 (onL T (xs (nI i + 1).toNatClampNeg) (fun s => lu_setpoint s )).2.1 ++ wL cI cJ a.2.2 (onL T (xs (nI i + 1).toNatClampNeg) (fun s => lu_setpoint s )).2.2))) ++ (wM cI cJ cZ am M)) := pe_m _ _ _ _ _
  refine lw_Rl2 (w1 := (wG cI cJ cO adU (ofL T (xs (nI i + 1).toNatClampNeg) (fun s => lo_setpoint s uo ) uo) adB adA lf bs a (onL T (xs (nI i + 1).toNatClampNeg) (fun s => lu_setpoint s )) (wM cI cJ cZ am (um_setpoint M (xs (nI i + 1).toNatClampNeg))))) (wl := ([zX5 adB adA bs, zAL cO adA 3 lf, zAJ cJ adU 1 (ofL T (xs (nI i + 1).toNatClampNeg) (fun s => lo_setpoint s uo ) uo)] ++ (wL cI cJ a.1 (onL T (xs (nI i + 1).toNatClampNeg) (fun s => lu_setpoint s )).1 ++ (wL cI cJ a.2.1 (onL T (xs (nI i + 1).toNatClampNeg) (fun s => lu_setpoint s )).2.1 ++ wL cI cJ a.2.2 (onL T (xs (nI i + 1).toNatClampNeg) (fun s => lu_setpoint s )).2.2)))) (wr := (wM cI cJ cZ am M)) (wq := (wM cI cJ cZ am (um_setpoint M (xs (nI i + 1).toNatClampNeg)))) (rv := (rm_setpoint M (xs (nI i + 1).toNatClampNeg))) (rest := []) (va_runV (As := [.int (xs (nI i + 1).toNatClampNeg)]) (rest := []) ⟨hx, hb, hml, hown, hts⟩ (d_X6_setpoint l dC dI cI cJ cZ cO am M (xs (nI i + 1).toNatClampNeg) _ ) (cwV 1 hts (gd_V wd_5_77 wd_5_78 wd_5_79 wd_1_7 wd_5_80) rfl rfl rfl (by decide +kernel) ⟨Nat.le_of_ble_eq_true rfl, Nat.le_of_ble_eq_true rfl⟩) (lw_Rq (ci := 6) (q := (RX6, TX6, 42)) (q0 := 0) rfl rfl gU_c (fun _ _ _ => trivial) hK hp hP hD) rfl rfl hl.1 rfl (lv_room (Nat.le_of_ble_eq_true rfl)) dL_law_1185 ⟨by show cells + 8 + 0 ≤ 650651; omega, by show slots + 64 + 0 ≤ 7144151; omega⟩) hp (pe_m _ _ _ _ _) hP hD hS hA (fun H locs hP hD hS => ?_)
  refine lv_lstore (lv' := [(6, .long (rm_setpoint M (xs (nI i + 1).toNatClampNeg))), (5, .int (ofL T (xs (nI i + 1).toNatClampNeg) (fun s => lr_setpoint s ) 1)), (4, .int (nI i)), (0, .ref b), (1, .ref adB), (2, .ref (yq_adM am)), (3, .ref adU)]) hx hb dL_law_1188 hl (by decide) rfl (fun ls hl => ?_)
  refine lv_aload_n hx hb dL_law_1190 rfl (lv_at hl 5 rfl) ?_
  have hp : (wG cI cJ cO adU (ofL T (xs (nI i + 1).toNatClampNeg) (fun s => lo_setpoint s uo ) uo) adB adA lf bs a (onL T (xs (nI i + 1).toNatClampNeg) (fun s => lu_setpoint s )) (wM cI cJ cZ am (um_setpoint M (xs (nI i + 1).toNatClampNeg)))).Perm (([zX5 adB adA bs, zAL cO adA 3 lf, zAJ cJ adU 1 (ofL T (xs (nI i + 1).toNatClampNeg) (fun s => lo_setpoint s uo ) uo)] ++ (wL cI cJ a.1 (onL T (xs (nI i + 1).toNatClampNeg) (fun s => lu_setpoint s )).1 ++ (wL cI cJ a.2.1 (onL T (xs (nI i + 1).toNatClampNeg) (fun s => lu_setpoint s )).2.1 ++ wL cI cJ a.2.2 (onL T (xs (nI i + 1).toNatClampNeg) (fun s => lu_setpoint s )).2.2))) ++ (wM cI cJ cZ am (um_setpoint M (xs (nI i + 1).toNatClampNeg)))) := pe_m _ _ _ _ _
  refine lw_Ri2 (w1 := (wG cI cJ cO adU (ofL T (xs (nI i + 1).toNatClampNeg) (fun s => lo_setpoint s uo ) uo) adB adA lf bs a (onL T (xs (nI i + 1).toNatClampNeg) (fun s => lu_setpoint s )) (wM cI cJ cZ am (um_setpoint M (xs (nI i + 1).toNatClampNeg))))) (wl := ([zX5 adB adA bs, zAL cO adA 3 lf, zAJ cJ adU 1 (ofL T (xs (nI i + 1).toNatClampNeg) (fun s => lo_setpoint s uo ) uo)] ++ (wL cI cJ a.1 (onL T (xs (nI i + 1).toNatClampNeg) (fun s => lu_setpoint s )).1 ++ (wL cI cJ a.2.1 (onL T (xs (nI i + 1).toNatClampNeg) (fun s => lu_setpoint s )).2.1 ++ wL cI cJ a.2.2 (onL T (xs (nI i + 1).toNatClampNeg) (fun s => lu_setpoint s )).2.2)))) (wr := (wM cI cJ cZ am (um_setpoint M (xs (nI i + 1).toNatClampNeg)))) (wq := (wM cI cJ cZ am (um_thrown (um_setpoint M (xs (nI i + 1).toNatClampNeg))))) (rv := (rm_thrown (um_setpoint M (xs (nI i + 1).toNatClampNeg)))) (rest := []) (va_runV (As := []) (rest := []) ⟨hx, hb, hml, hown, hts⟩ (d_X6_thrown l dC dI cI cJ cZ cO am (um_setpoint M (xs (nI i + 1).toNatClampNeg)) _) (cwV 0 hts (gd_V wd_4_184 wd_4_185 wd_4_186 wd_1_7 wd_4_187) rfl rfl rfl (by decide +kernel) ⟨Nat.le_of_ble_eq_true rfl, Nat.le_of_ble_eq_true rfl⟩) (lw_Rq (ci := 6) (q := (RX6, TX6, 42)) (q0 := 0) rfl rfl gU_c (fun _ _ _ => trivial) hK hp hP hD) rfl rfl hl.1 rfl (lv_room (Nat.le_of_ble_eq_true rfl)) dL_law_1191 ⟨by show cells + 8 + 0 ≤ 650651; omega, by show slots + 64 + 0 ≤ 7144151; omega⟩) hp (pe_m _ _ _ _ _) hP hD hS hA (fun H locs hP hD hS => ?_)
  refine lv_iload hx hb dL_law_1194 (lv_at hl 1 rfl) ?_
  refine lv_icmp_eq (tgt := 1201) hx hb dL_law_1196 (by decide) (fun h9 => ?_) (fun h9 => absurd r1 h9)
  refine lv_iload hx hb dL_law_1201 (lv_at hl 1 rfl) ?_
  refine lv_if_ne (tgt := 1217) hx hb dL_law_1203 (by decide) (fun h8 => ?_) (fun h8 => ?_)
  · refine lv_goto (tgt := 1881) hx hb dL_law_1217 (by decide) ?_
    exact kk _ _ _ _ H locs ls r3 hP hD hS (lv_sub hl [2, 3, 4, 5, 6] rfl)
  · skip
    refine lv_aload_n hx hb dL_law_1206 rfl (lv_at hl 6 rfl) ?_
    refine lv_iconst (v := 0) hx hb dL_law_1207 (by decide) ?_
    refine va_lald hx hb hK hP 2 1 rfl rfl (i := (0 : Int32)) (ix_d (by decide)) dL_law_1208 ?_
    refine lv_lload hx hb dL_law_1209 (lv_at hl 0 rfl) ?_
    refine hh_ceq (tgt := 1217) hx hb dL_law_1211 dL_law_1212 (by decide) (fun h7 => ?_) (fun h7 => absurd (r2 h8) h7)
    refine lv_goto (tgt := 1881) hx hb dL_law_1217 (by decide) ?_
    exact kk _ _ _ _ H locs ls r3 hP hD hS (lv_sub hl [2, 3, 4, 5, 6] rfl)
set_option maxHeartbeats 4000000 in
theorem k_integral (K : KX p l s m meth c b L xs (dC, dI) cI cJ cZ cO lf a) (hR : Rel T bs M) (hi : i + 6 ≤ L) (hc : cells + 8 ≤ 650651) (hs : slots + 64 ≤ 7144151) (hP : va_P (dC, dI) vwCl (wG cI cJ cO adU uo adB adA lf bs a T (wM cI cJ cZ am M)) H) (hD : va_D (fun q => s.heap.size ≤ q) (wG cI cJ cO adU uo adB adA lf bs a T (wM cI cJ cZ am M))) (hS : va_S (fun q => s.heap.size ≤ q) s.heap H locs) (hl : lv_has ls 8 [(4, .int (nI i)), (0, .ref b), (1, .ref adB), (2, .ref (yq_adM am)), (3, .ref adU)])
    (kk : ∀ (uo : Nat → Int64) (bs : Int32) (T : LT × LT × LT) (M : MT) (H : Heap) (locs : List Loc) (ls : Array Slot), Rel T bs M → va_P (dC, dI) vwCl (wG cI cJ cO adU uo adB adA lf bs a T (wM cI cJ cZ am M)) H → va_D (fun q => s.heap.size ≤ q) (wG cI cJ cO adU uo adB adA lf bs a T (wM cI cJ cZ am M)) → va_S (fun q => s.heap.size ≤ q) s.heap H locs → lv_has ls 8 [(4, .int (nI i)), (0, .ref b), (1, .ref adB), (2, .ref (yq_adM am)), (3, .ref adU)] → W p l e room_1 s m #[Value.ref b] below meth c H locs (cells + 8) (slots + 64) Q (F0 m 1881 ls [])) : W p l e room_1 s m #[Value.ref b] below meth c H locs cells slots Q (F0 m 1220 ls []) := by
  obtain ⟨hx, hb, hr, hml, hown, hts, hX, hbl, hlocks, hG, hfl, hK, hf0, hf1, hf2, hL⟩ := id K
  have hA : ∀ q : Nat, s.heap.size ≤ q → (fun q => s.heap.size ≤ q) q := fun _ h => h
  have hbA : ¬ (fun q => s.heap.size ≤ q) b := Nat.not_le.mpr hbl
  obtain ⟨r1, r2, r3⟩ := rel_integral hR (xs (nI i + 1).toNatClampNeg) uo
  refine lv_aload_n hx hb dL_law_1220 rfl (lv_at hl 2 rfl) ?_
  refine lv_aload_n hx hb dL_law_1221 rfl (lv_at hl 1 rfl) ?_
  refine lv_iload hx hb dL_law_1222 (lv_at hl 0 rfl) ?_
  refine lv_iconst (v := 1) hx hb dL_law_1224 (by decide) ?_
  refine lv_iadd hx hb dL_law_1225 ?_
  refine va_sld hx hb hX hbl hbA hS (lw_in (j := 1) (by decide) hi hL) dL_law_1226 ?_
  refine lv_aload_n hx hb dL_law_1227 rfl (lv_at hl 4 rfl) ?_
  refine s_integral K (xs (nI i + 1).toNatClampNeg)  hc hs hP hD hS hl.1 dL_law_1228 (fun H locs hP hD hS => ?_)
  refine lv_istore (lv' := [(5, .int (ofL T (xs (nI i + 1).toNatClampNeg) (fun s => lr_integral s ) 1)), (4, .int (nI i)), (0, .ref b), (1, .ref adB), (2, .ref (yq_adM am)), (3, .ref adU)]) hx hb dL_law_1231 hl (by decide) rfl (fun ls hl => ?_)
  refine lv_aload_n hx hb dL_law_1233 rfl (lv_at hl 4 rfl) ?_
  refine lv_aload_n hx hb dL_law_1234 rfl (lv_at hl 2 rfl) ?_
  refine lv_iload hx hb dL_law_1235 (lv_at hl 1 rfl) ?_
  refine lv_iconst (v := 1) hx hb dL_law_1237 (by decide) ?_
  refine lv_iadd hx hb dL_law_1238 ?_
  refine va_sld hx hb hX hbl hbA hS (lw_in (j := 1) (by decide) hi hL) dL_law_1239 ?_
  have hp : (wG cI cJ cO adU (ofL T (xs (nI i + 1).toNatClampNeg) (fun s => lo_integral s uo ) uo) adB adA lf bs a (onL T (xs (nI i + 1).toNatClampNeg) (fun s => lu_integral s )) (wM cI cJ cZ am M)).Perm (([zX5 adB adA bs, zAL cO adA 3 lf, zAJ cJ adU 1 (ofL T (xs (nI i + 1).toNatClampNeg) (fun s => lo_integral s uo ) uo)] ++ (wL cI cJ a.1 (onL T (xs (nI i + 1).toNatClampNeg) (fun s => lu_integral s )).1 ++ (wL cI cJ a.2.1 (onL T (xs (nI i + 1).toNatClampNeg) (fun s => lu_integral s )).2.1 ++ wL cI cJ a.2.2 (onL T (xs (nI i + 1).toNatClampNeg) (fun s => lu_integral s )).2.2))) ++ (wM cI cJ cZ am M)) := pe_m _ _ _ _ _
  refine lw_Rl2 (w1 := (wG cI cJ cO adU (ofL T (xs (nI i + 1).toNatClampNeg) (fun s => lo_integral s uo ) uo) adB adA lf bs a (onL T (xs (nI i + 1).toNatClampNeg) (fun s => lu_integral s )) (wM cI cJ cZ am (um_integral M (xs (nI i + 1).toNatClampNeg))))) (wl := ([zX5 adB adA bs, zAL cO adA 3 lf, zAJ cJ adU 1 (ofL T (xs (nI i + 1).toNatClampNeg) (fun s => lo_integral s uo ) uo)] ++ (wL cI cJ a.1 (onL T (xs (nI i + 1).toNatClampNeg) (fun s => lu_integral s )).1 ++ (wL cI cJ a.2.1 (onL T (xs (nI i + 1).toNatClampNeg) (fun s => lu_integral s )).2.1 ++ wL cI cJ a.2.2 (onL T (xs (nI i + 1).toNatClampNeg) (fun s => lu_integral s )).2.2)))) (wr := (wM cI cJ cZ am M)) (wq := (wM cI cJ cZ am (um_integral M (xs (nI i + 1).toNatClampNeg)))) (rv := (rm_integral M (xs (nI i + 1).toNatClampNeg))) (rest := []) (va_runV (As := [.int (xs (nI i + 1).toNatClampNeg)]) (rest := []) ⟨hx, hb, hml, hown, hts⟩ (d_X6_integral l dC dI cI cJ cZ cO am M (xs (nI i + 1).toNatClampNeg) _ ) (cwV 1 hts (gd_V wd_5_81 wd_5_82 wd_5_83 wd_1_7 wd_5_84) rfl rfl rfl (by decide +kernel) ⟨Nat.le_of_ble_eq_true rfl, Nat.le_of_ble_eq_true rfl⟩) (lw_Rq (ci := 6) (q := (RX6, TX6, 42)) (q0 := 0) rfl rfl gU_c (fun _ _ _ => trivial) hK hp hP hD) rfl rfl hl.1 rfl (lv_room (Nat.le_of_ble_eq_true rfl)) dL_law_1240 ⟨by show cells + 8 + 0 ≤ 650651; omega, by show slots + 64 + 0 ≤ 7144151; omega⟩) hp (pe_m _ _ _ _ _) hP hD hS hA (fun H locs hP hD hS => ?_)
  refine lv_lstore (lv' := [(6, .long (rm_integral M (xs (nI i + 1).toNatClampNeg))), (5, .int (ofL T (xs (nI i + 1).toNatClampNeg) (fun s => lr_integral s ) 1)), (4, .int (nI i)), (0, .ref b), (1, .ref adB), (2, .ref (yq_adM am)), (3, .ref adU)]) hx hb dL_law_1243 hl (by decide) rfl (fun ls hl => ?_)
  refine lv_aload_n hx hb dL_law_1245 rfl (lv_at hl 5 rfl) ?_
  have hp : (wG cI cJ cO adU (ofL T (xs (nI i + 1).toNatClampNeg) (fun s => lo_integral s uo ) uo) adB adA lf bs a (onL T (xs (nI i + 1).toNatClampNeg) (fun s => lu_integral s )) (wM cI cJ cZ am (um_integral M (xs (nI i + 1).toNatClampNeg)))).Perm (([zX5 adB adA bs, zAL cO adA 3 lf, zAJ cJ adU 1 (ofL T (xs (nI i + 1).toNatClampNeg) (fun s => lo_integral s uo ) uo)] ++ (wL cI cJ a.1 (onL T (xs (nI i + 1).toNatClampNeg) (fun s => lu_integral s )).1 ++ (wL cI cJ a.2.1 (onL T (xs (nI i + 1).toNatClampNeg) (fun s => lu_integral s )).2.1 ++ wL cI cJ a.2.2 (onL T (xs (nI i + 1).toNatClampNeg) (fun s => lu_integral s )).2.2))) ++ (wM cI cJ cZ am (um_integral M (xs (nI i + 1).toNatClampNeg)))) := pe_m _ _ _ _ _
  refine lw_Ri2 (w1 := (wG cI cJ cO adU (ofL T (xs (nI i + 1).toNatClampNeg) (fun s => lo_integral s uo ) uo) adB adA lf bs a (onL T (xs (nI i + 1).toNatClampNeg) (fun s => lu_integral s )) (wM cI cJ cZ am (um_integral M (xs (nI i + 1).toNatClampNeg))))) (wl := ([zX5 adB adA bs, zAL cO adA 3 lf, zAJ cJ adU 1 (ofL T (xs (nI i + 1).toNatClampNeg) (fun s => lo_integral s uo ) uo)] ++ (wL cI cJ a.1 (onL T (xs (nI i + 1).toNatClampNeg) (fun s => lu_integral s )).1 ++ (wL cI cJ a.2.1 (onL T (xs (nI i + 1).toNatClampNeg) (fun s => lu_integral s )).2.1 ++ wL cI cJ a.2.2 (onL T (xs (nI i + 1).toNatClampNeg) (fun s => lu_integral s )).2.2)))) (wr := (wM cI cJ cZ am (um_integral M (xs (nI i + 1).toNatClampNeg)))) (wq := (wM cI cJ cZ am (um_thrown (um_integral M (xs (nI i + 1).toNatClampNeg))))) (rv := (rm_thrown (um_integral M (xs (nI i + 1).toNatClampNeg)))) (rest := []) (va_runV (As := []) (rest := []) ⟨hx, hb, hml, hown, hts⟩ (d_X6_thrown l dC dI cI cJ cZ cO am (um_integral M (xs (nI i + 1).toNatClampNeg)) _) (cwV 0 hts (gd_V wd_4_184 wd_4_185 wd_4_186 wd_1_7 wd_4_187) rfl rfl rfl (by decide +kernel) ⟨Nat.le_of_ble_eq_true rfl, Nat.le_of_ble_eq_true rfl⟩) (lw_Rq (ci := 6) (q := (RX6, TX6, 42)) (q0 := 0) rfl rfl gU_c (fun _ _ _ => trivial) hK hp hP hD) rfl rfl hl.1 rfl (lv_room (Nat.le_of_ble_eq_true rfl)) dL_law_1246 ⟨by show cells + 8 + 0 ≤ 650651; omega, by show slots + 64 + 0 ≤ 7144151; omega⟩) hp (pe_m _ _ _ _ _) hP hD hS hA (fun H locs hP hD hS => ?_)
  refine lv_iload hx hb dL_law_1249 (lv_at hl 1 rfl) ?_
  refine lv_icmp_eq (tgt := 1256) hx hb dL_law_1251 (by decide) (fun h9 => ?_) (fun h9 => absurd r1 h9)
  refine lv_iload hx hb dL_law_1256 (lv_at hl 1 rfl) ?_
  refine lv_if_ne (tgt := 1272) hx hb dL_law_1258 (by decide) (fun h8 => ?_) (fun h8 => ?_)
  · refine lv_goto (tgt := 1881) hx hb dL_law_1272 (by decide) ?_
    exact kk _ _ _ _ H locs ls r3 hP hD hS (lv_sub hl [2, 3, 4, 5, 6] rfl)
  · skip
    refine lv_aload_n hx hb dL_law_1261 rfl (lv_at hl 6 rfl) ?_
    refine lv_iconst (v := 0) hx hb dL_law_1262 (by decide) ?_
    refine va_lald hx hb hK hP 2 1 rfl rfl (i := (0 : Int32)) (ix_d (by decide)) dL_law_1263 ?_
    refine lv_lload hx hb dL_law_1264 (lv_at hl 0 rfl) ?_
    refine hh_ceq (tgt := 1272) hx hb dL_law_1266 dL_law_1267 (by decide) (fun h7 => ?_) (fun h7 => absurd (r2 h8) h7)
    refine lv_goto (tgt := 1881) hx hb dL_law_1272 (by decide) ?_
    exact kk _ _ _ _ H locs ls r3 hP hD hS (lv_sub hl [2, 3, 4, 5, 6] rfl)
set_option maxHeartbeats 4000000 in
theorem k_gain (K : KX p l s m meth c b L xs (dC, dI) cI cJ cZ cO lf a) (hR : Rel T bs M) (hi : i + 6 ≤ L) (hc : cells + 8 ≤ 650651) (hs : slots + 64 ≤ 7144151) (hP : va_P (dC, dI) vwCl (wG cI cJ cO adU uo adB adA lf bs a T (wM cI cJ cZ am M)) H) (hD : va_D (fun q => s.heap.size ≤ q) (wG cI cJ cO adU uo adB adA lf bs a T (wM cI cJ cZ am M))) (hS : va_S (fun q => s.heap.size ≤ q) s.heap H locs) (hl : lv_has ls 8 [(4, .int (nI i)), (0, .ref b), (1, .ref adB), (2, .ref (yq_adM am)), (3, .ref adU)])
    (kk : ∀ (uo : Nat → Int64) (bs : Int32) (T : LT × LT × LT) (M : MT) (H : Heap) (locs : List Loc) (ls : Array Slot), Rel T bs M → va_P (dC, dI) vwCl (wG cI cJ cO adU uo adB adA lf bs a T (wM cI cJ cZ am M)) H → va_D (fun q => s.heap.size ≤ q) (wG cI cJ cO adU uo adB adA lf bs a T (wM cI cJ cZ am M)) → va_S (fun q => s.heap.size ≤ q) s.heap H locs → lv_has ls 8 [(4, .int (nI i)), (0, .ref b), (1, .ref adB), (2, .ref (yq_adM am)), (3, .ref adU)] → W p l e room_1 s m #[Value.ref b] below meth c H locs (cells + 8) (slots + 64) Q (F0 m 1881 ls [])) : W p l e room_1 s m #[Value.ref b] below meth c H locs cells slots Q (F0 m 1275 ls []) := by
  obtain ⟨hx, hb, hr, hml, hown, hts, hX, hbl, hlocks, hG, hfl, hK, hf0, hf1, hf2, hL⟩ := id K
  have hA : ∀ q : Nat, s.heap.size ≤ q → (fun q => s.heap.size ≤ q) q := fun _ h => h
  have hbA : ¬ (fun q => s.heap.size ≤ q) b := Nat.not_le.mpr hbl
  obtain ⟨r1, r2, r3⟩ := rel_gain hR (xs (nI i + 1).toNatClampNeg) (xs (nI i + 2).toNatClampNeg) uo
  refine lv_aload_n hx hb dL_law_1275 rfl (lv_at hl 2 rfl) ?_
  refine lv_aload_n hx hb dL_law_1276 rfl (lv_at hl 1 rfl) ?_
  refine lv_iload hx hb dL_law_1277 (lv_at hl 0 rfl) ?_
  refine lv_iconst (v := 1) hx hb dL_law_1279 (by decide) ?_
  refine lv_iadd hx hb dL_law_1280 ?_
  refine va_sld hx hb hX hbl hbA hS (lw_in (j := 1) (by decide) hi hL) dL_law_1281 ?_
  refine lv_aload_n hx hb dL_law_1282 rfl (lv_at hl 1 rfl) ?_
  refine lv_iload hx hb dL_law_1283 (lv_at hl 0 rfl) ?_
  refine lv_iconst (v := 2) hx hb dL_law_1285 (by decide) ?_
  refine lv_iadd hx hb dL_law_1286 ?_
  refine va_sld hx hb hX hbl hbA hS (lw_in (j := 2) (by decide) hi hL) dL_law_1287 ?_
  refine lv_aload_n hx hb dL_law_1288 rfl (lv_at hl 4 rfl) ?_
  refine s_gain K (xs (nI i + 1).toNatClampNeg) (xs (nI i + 2).toNatClampNeg)  hc hs hP hD hS hl.1 dL_law_1289 (fun H locs hP hD hS => ?_)
  refine lv_istore (lv' := [(5, .int (ofL T (xs (nI i + 1).toNatClampNeg) (fun s => lr_gain s (xs (nI i + 2).toNatClampNeg)) 1)), (4, .int (nI i)), (0, .ref b), (1, .ref adB), (2, .ref (yq_adM am)), (3, .ref adU)]) hx hb dL_law_1292 hl (by decide) rfl (fun ls hl => ?_)
  refine lv_aload_n hx hb dL_law_1294 rfl (lv_at hl 4 rfl) ?_
  refine lv_aload_n hx hb dL_law_1295 rfl (lv_at hl 2 rfl) ?_
  refine lv_iload hx hb dL_law_1296 (lv_at hl 1 rfl) ?_
  refine lv_iconst (v := 1) hx hb dL_law_1298 (by decide) ?_
  refine lv_iadd hx hb dL_law_1299 ?_
  refine va_sld hx hb hX hbl hbA hS (lw_in (j := 1) (by decide) hi hL) dL_law_1300 ?_
  refine lv_aload_n hx hb dL_law_1301 rfl (lv_at hl 2 rfl) ?_
  refine lv_iload hx hb dL_law_1302 (lv_at hl 1 rfl) ?_
  refine lv_iconst (v := 2) hx hb dL_law_1304 (by decide) ?_
  refine lv_iadd hx hb dL_law_1305 ?_
  refine va_sld hx hb hX hbl hbA hS (lw_in (j := 2) (by decide) hi hL) dL_law_1306 ?_
  have hp : (wG cI cJ cO adU (ofL T (xs (nI i + 1).toNatClampNeg) (fun s => lo_gain s uo (xs (nI i + 2).toNatClampNeg)) uo) adB adA lf bs a (onL T (xs (nI i + 1).toNatClampNeg) (fun s => lu_gain s (xs (nI i + 2).toNatClampNeg))) (wM cI cJ cZ am M)).Perm (([zX5 adB adA bs, zAL cO adA 3 lf, zAJ cJ adU 1 (ofL T (xs (nI i + 1).toNatClampNeg) (fun s => lo_gain s uo (xs (nI i + 2).toNatClampNeg)) uo)] ++ (wL cI cJ a.1 (onL T (xs (nI i + 1).toNatClampNeg) (fun s => lu_gain s (xs (nI i + 2).toNatClampNeg))).1 ++ (wL cI cJ a.2.1 (onL T (xs (nI i + 1).toNatClampNeg) (fun s => lu_gain s (xs (nI i + 2).toNatClampNeg))).2.1 ++ wL cI cJ a.2.2 (onL T (xs (nI i + 1).toNatClampNeg) (fun s => lu_gain s (xs (nI i + 2).toNatClampNeg))).2.2))) ++ (wM cI cJ cZ am M)) := pe_m _ _ _ _ _
  refine lw_Ri2 (w1 := (wG cI cJ cO adU (ofL T (xs (nI i + 1).toNatClampNeg) (fun s => lo_gain s uo (xs (nI i + 2).toNatClampNeg)) uo) adB adA lf bs a (onL T (xs (nI i + 1).toNatClampNeg) (fun s => lu_gain s (xs (nI i + 2).toNatClampNeg))) (wM cI cJ cZ am (um_gain M (xs (nI i + 1).toNatClampNeg) (xs (nI i + 2).toNatClampNeg))))) (wl := ([zX5 adB adA bs, zAL cO adA 3 lf, zAJ cJ adU 1 (ofL T (xs (nI i + 1).toNatClampNeg) (fun s => lo_gain s uo (xs (nI i + 2).toNatClampNeg)) uo)] ++ (wL cI cJ a.1 (onL T (xs (nI i + 1).toNatClampNeg) (fun s => lu_gain s (xs (nI i + 2).toNatClampNeg))).1 ++ (wL cI cJ a.2.1 (onL T (xs (nI i + 1).toNatClampNeg) (fun s => lu_gain s (xs (nI i + 2).toNatClampNeg))).2.1 ++ wL cI cJ a.2.2 (onL T (xs (nI i + 1).toNatClampNeg) (fun s => lu_gain s (xs (nI i + 2).toNatClampNeg))).2.2)))) (wr := (wM cI cJ cZ am M)) (wq := (wM cI cJ cZ am (um_gain M (xs (nI i + 1).toNatClampNeg) (xs (nI i + 2).toNatClampNeg)))) (rv := (rm_gain M (xs (nI i + 1).toNatClampNeg) (xs (nI i + 2).toNatClampNeg))) (rest := []) (va_runV (As := [.int (xs (nI i + 1).toNatClampNeg), .int (xs (nI i + 2).toNatClampNeg)]) (rest := []) ⟨hx, hb, hml, hown, hts⟩ (d_X6_gain l dC dI cI cJ cZ cO am M (xs (nI i + 1).toNatClampNeg) (xs (nI i + 2).toNatClampNeg) _ ) (cwV 2 hts (gd_V wd_5_85 wd_5_86 wd_5_87 wd_1_7 wd_5_88) rfl rfl rfl (by decide +kernel) ⟨Nat.le_of_ble_eq_true rfl, Nat.le_of_ble_eq_true rfl⟩) (lw_Rq (ci := 6) (q := (RX6, TX6, 42)) (q0 := 0) rfl rfl gU_c (fun _ _ _ => trivial) hK hp hP hD) rfl rfl hl.1 rfl (lv_room (Nat.le_of_ble_eq_true rfl)) dL_law_1307 ⟨by show cells + 8 + 0 ≤ 650651; omega, by show slots + 64 + 0 ≤ 7144151; omega⟩) hp (pe_m _ _ _ _ _) hP hD hS hA (fun H locs hP hD hS => ?_)
  refine lv_istore (lv' := [(6, .int (rm_gain M (xs (nI i + 1).toNatClampNeg) (xs (nI i + 2).toNatClampNeg))), (5, .int (ofL T (xs (nI i + 1).toNatClampNeg) (fun s => lr_gain s (xs (nI i + 2).toNatClampNeg)) 1)), (4, .int (nI i)), (0, .ref b), (1, .ref adB), (2, .ref (yq_adM am)), (3, .ref adU)]) hx hb dL_law_1310 hl (by decide) rfl (fun ls hl => ?_)
  refine lv_aload_n hx hb dL_law_1312 rfl (lv_at hl 5 rfl) ?_
  have hp : (wG cI cJ cO adU (ofL T (xs (nI i + 1).toNatClampNeg) (fun s => lo_gain s uo (xs (nI i + 2).toNatClampNeg)) uo) adB adA lf bs a (onL T (xs (nI i + 1).toNatClampNeg) (fun s => lu_gain s (xs (nI i + 2).toNatClampNeg))) (wM cI cJ cZ am (um_gain M (xs (nI i + 1).toNatClampNeg) (xs (nI i + 2).toNatClampNeg)))).Perm (([zX5 adB adA bs, zAL cO adA 3 lf, zAJ cJ adU 1 (ofL T (xs (nI i + 1).toNatClampNeg) (fun s => lo_gain s uo (xs (nI i + 2).toNatClampNeg)) uo)] ++ (wL cI cJ a.1 (onL T (xs (nI i + 1).toNatClampNeg) (fun s => lu_gain s (xs (nI i + 2).toNatClampNeg))).1 ++ (wL cI cJ a.2.1 (onL T (xs (nI i + 1).toNatClampNeg) (fun s => lu_gain s (xs (nI i + 2).toNatClampNeg))).2.1 ++ wL cI cJ a.2.2 (onL T (xs (nI i + 1).toNatClampNeg) (fun s => lu_gain s (xs (nI i + 2).toNatClampNeg))).2.2))) ++ (wM cI cJ cZ am (um_gain M (xs (nI i + 1).toNatClampNeg) (xs (nI i + 2).toNatClampNeg)))) := pe_m _ _ _ _ _
  refine lw_Ri2 (w1 := (wG cI cJ cO adU (ofL T (xs (nI i + 1).toNatClampNeg) (fun s => lo_gain s uo (xs (nI i + 2).toNatClampNeg)) uo) adB adA lf bs a (onL T (xs (nI i + 1).toNatClampNeg) (fun s => lu_gain s (xs (nI i + 2).toNatClampNeg))) (wM cI cJ cZ am (um_gain M (xs (nI i + 1).toNatClampNeg) (xs (nI i + 2).toNatClampNeg))))) (wl := ([zX5 adB adA bs, zAL cO adA 3 lf, zAJ cJ adU 1 (ofL T (xs (nI i + 1).toNatClampNeg) (fun s => lo_gain s uo (xs (nI i + 2).toNatClampNeg)) uo)] ++ (wL cI cJ a.1 (onL T (xs (nI i + 1).toNatClampNeg) (fun s => lu_gain s (xs (nI i + 2).toNatClampNeg))).1 ++ (wL cI cJ a.2.1 (onL T (xs (nI i + 1).toNatClampNeg) (fun s => lu_gain s (xs (nI i + 2).toNatClampNeg))).2.1 ++ wL cI cJ a.2.2 (onL T (xs (nI i + 1).toNatClampNeg) (fun s => lu_gain s (xs (nI i + 2).toNatClampNeg))).2.2)))) (wr := (wM cI cJ cZ am (um_gain M (xs (nI i + 1).toNatClampNeg) (xs (nI i + 2).toNatClampNeg)))) (wq := (wM cI cJ cZ am (um_thrown (um_gain M (xs (nI i + 1).toNatClampNeg) (xs (nI i + 2).toNatClampNeg))))) (rv := (rm_thrown (um_gain M (xs (nI i + 1).toNatClampNeg) (xs (nI i + 2).toNatClampNeg)))) (rest := []) (va_runV (As := []) (rest := []) ⟨hx, hb, hml, hown, hts⟩ (d_X6_thrown l dC dI cI cJ cZ cO am (um_gain M (xs (nI i + 1).toNatClampNeg) (xs (nI i + 2).toNatClampNeg)) _) (cwV 0 hts (gd_V wd_4_184 wd_4_185 wd_4_186 wd_1_7 wd_4_187) rfl rfl rfl (by decide +kernel) ⟨Nat.le_of_ble_eq_true rfl, Nat.le_of_ble_eq_true rfl⟩) (lw_Rq (ci := 6) (q := (RX6, TX6, 42)) (q0 := 0) rfl rfl gU_c (fun _ _ _ => trivial) hK hp hP hD) rfl rfl hl.1 rfl (lv_room (Nat.le_of_ble_eq_true rfl)) dL_law_1313 ⟨by show cells + 8 + 0 ≤ 650651; omega, by show slots + 64 + 0 ≤ 7144151; omega⟩) hp (pe_m _ _ _ _ _) hP hD hS hA (fun H locs hP hD hS => ?_)
  refine lv_iload hx hb dL_law_1316 (lv_at hl 1 rfl) ?_
  refine lv_icmp_eq (tgt := 1323) hx hb dL_law_1318 (by decide) (fun h9 => ?_) (fun h9 => absurd r1 h9)
  refine lv_iload hx hb dL_law_1323 (lv_at hl 1 rfl) ?_
  refine lv_if_ne (tgt := 1340) hx hb dL_law_1325 (by decide) (fun h8 => ?_) (fun h8 => ?_)
  · refine lv_goto (tgt := 1881) hx hb dL_law_1340 (by decide) ?_
    exact kk _ _ _ _ H locs ls r3 hP hD hS (lv_sub hl [2, 3, 4, 5, 6] rfl)
  · skip
    refine lv_aload_n hx hb dL_law_1328 rfl (lv_at hl 6 rfl) ?_
    refine lv_iconst (v := 0) hx hb dL_law_1329 (by decide) ?_
    refine va_lald hx hb hK hP 2 1 rfl rfl (i := (0 : Int32)) (ix_d (by decide)) dL_law_1330 ?_
    refine lv_iload hx hb dL_law_1331 (lv_at hl 0 rfl) ?_
    refine lv_i2l hx hb dL_law_1333 rfl ?_
    refine hh_ceq (tgt := 1340) hx hb dL_law_1334 dL_law_1335 (by decide) (fun h7 => ?_) (fun h7 => absurd (r2 h8) h7)
    refine lv_goto (tgt := 1881) hx hb dL_law_1340 (by decide) ?_
    exact kk _ _ _ _ H locs ls r3 hP hD hS (lv_sub hl [2, 3, 4, 5, 6] rfl)
set_option maxHeartbeats 4000000 in
theorem k_mode (K : KX p l s m meth c b L xs (dC, dI) cI cJ cZ cO lf a) (hR : Rel T bs M) (hi : i + 6 ≤ L) (hc : cells + 8 ≤ 650651) (hs : slots + 64 ≤ 7144151) (hP : va_P (dC, dI) vwCl (wG cI cJ cO adU uo adB adA lf bs a T (wM cI cJ cZ am M)) H) (hD : va_D (fun q => s.heap.size ≤ q) (wG cI cJ cO adU uo adB adA lf bs a T (wM cI cJ cZ am M))) (hS : va_S (fun q => s.heap.size ≤ q) s.heap H locs) (hl : lv_has ls 8 [(4, .int (nI i)), (0, .ref b), (1, .ref adB), (2, .ref (yq_adM am)), (3, .ref adU)])
    (kk : ∀ (uo : Nat → Int64) (bs : Int32) (T : LT × LT × LT) (M : MT) (H : Heap) (locs : List Loc) (ls : Array Slot), Rel T bs M → va_P (dC, dI) vwCl (wG cI cJ cO adU uo adB adA lf bs a T (wM cI cJ cZ am M)) H → va_D (fun q => s.heap.size ≤ q) (wG cI cJ cO adU uo adB adA lf bs a T (wM cI cJ cZ am M)) → va_S (fun q => s.heap.size ≤ q) s.heap H locs → lv_has ls 8 [(4, .int (nI i)), (0, .ref b), (1, .ref adB), (2, .ref (yq_adM am)), (3, .ref adU)] → W p l e room_1 s m #[Value.ref b] below meth c H locs (cells + 8) (slots + 64) Q (F0 m 1881 ls [])) : W p l e room_1 s m #[Value.ref b] below meth c H locs cells slots Q (F0 m 1343 ls []) := by
  obtain ⟨hx, hb, hr, hml, hown, hts, hX, hbl, hlocks, hG, hfl, hK, hf0, hf1, hf2, hL⟩ := id K
  have hA : ∀ q : Nat, s.heap.size ≤ q → (fun q => s.heap.size ≤ q) q := fun _ h => h
  have hbA : ¬ (fun q => s.heap.size ≤ q) b := Nat.not_le.mpr hbl
  obtain ⟨r1, r2, r3⟩ := rel_mode hR (xs (nI i + 1).toNatClampNeg) uo
  refine lv_aload_n hx hb dL_law_1343 rfl (lv_at hl 2 rfl) ?_
  refine lv_aload_n hx hb dL_law_1344 rfl (lv_at hl 1 rfl) ?_
  refine lv_iload hx hb dL_law_1345 (lv_at hl 0 rfl) ?_
  refine lv_iconst (v := 1) hx hb dL_law_1347 (by decide) ?_
  refine lv_iadd hx hb dL_law_1348 ?_
  refine va_sld hx hb hX hbl hbA hS (lw_in (j := 1) (by decide) hi hL) dL_law_1349 ?_
  refine lv_aload_n hx hb dL_law_1350 rfl (lv_at hl 4 rfl) ?_
  refine s_mode K (xs (nI i + 1).toNatClampNeg)  hc hs hP hD hS hl.1 dL_law_1351 (fun H locs hP hD hS => ?_)
  refine lv_istore (lv' := [(5, .int (ofL T (xs (nI i + 1).toNatClampNeg) (fun s => lr_mode s ) 1)), (4, .int (nI i)), (0, .ref b), (1, .ref adB), (2, .ref (yq_adM am)), (3, .ref adU)]) hx hb dL_law_1354 hl (by decide) rfl (fun ls hl => ?_)
  refine lv_aload_n hx hb dL_law_1356 rfl (lv_at hl 4 rfl) ?_
  refine lv_aload_n hx hb dL_law_1357 rfl (lv_at hl 2 rfl) ?_
  refine lv_iload hx hb dL_law_1358 (lv_at hl 1 rfl) ?_
  refine lv_iconst (v := 1) hx hb dL_law_1360 (by decide) ?_
  refine lv_iadd hx hb dL_law_1361 ?_
  refine va_sld hx hb hX hbl hbA hS (lw_in (j := 1) (by decide) hi hL) dL_law_1362 ?_
  have hp : (wG cI cJ cO adU (ofL T (xs (nI i + 1).toNatClampNeg) (fun s => lo_mode s uo ) uo) adB adA lf bs a (onL T (xs (nI i + 1).toNatClampNeg) (fun s => lu_mode s )) (wM cI cJ cZ am M)).Perm (([zX5 adB adA bs, zAL cO adA 3 lf, zAJ cJ adU 1 (ofL T (xs (nI i + 1).toNatClampNeg) (fun s => lo_mode s uo ) uo)] ++ (wL cI cJ a.1 (onL T (xs (nI i + 1).toNatClampNeg) (fun s => lu_mode s )).1 ++ (wL cI cJ a.2.1 (onL T (xs (nI i + 1).toNatClampNeg) (fun s => lu_mode s )).2.1 ++ wL cI cJ a.2.2 (onL T (xs (nI i + 1).toNatClampNeg) (fun s => lu_mode s )).2.2))) ++ (wM cI cJ cZ am M)) := pe_m _ _ _ _ _
  refine lw_Ri2 (w1 := (wG cI cJ cO adU (ofL T (xs (nI i + 1).toNatClampNeg) (fun s => lo_mode s uo ) uo) adB adA lf bs a (onL T (xs (nI i + 1).toNatClampNeg) (fun s => lu_mode s )) (wM cI cJ cZ am (um_mode M (xs (nI i + 1).toNatClampNeg))))) (wl := ([zX5 adB adA bs, zAL cO adA 3 lf, zAJ cJ adU 1 (ofL T (xs (nI i + 1).toNatClampNeg) (fun s => lo_mode s uo ) uo)] ++ (wL cI cJ a.1 (onL T (xs (nI i + 1).toNatClampNeg) (fun s => lu_mode s )).1 ++ (wL cI cJ a.2.1 (onL T (xs (nI i + 1).toNatClampNeg) (fun s => lu_mode s )).2.1 ++ wL cI cJ a.2.2 (onL T (xs (nI i + 1).toNatClampNeg) (fun s => lu_mode s )).2.2)))) (wr := (wM cI cJ cZ am M)) (wq := (wM cI cJ cZ am (um_mode M (xs (nI i + 1).toNatClampNeg)))) (rv := (rm_mode M (xs (nI i + 1).toNatClampNeg))) (rest := []) (va_runV (As := [.int (xs (nI i + 1).toNatClampNeg)]) (rest := []) ⟨hx, hb, hml, hown, hts⟩ (d_X6_mode l dC dI cI cJ cZ cO am M (xs (nI i + 1).toNatClampNeg) _ ) (cwV 1 hts (gd_V wd_5_89 wd_5_90 wd_5_91 wd_1_7 wd_5_92) rfl rfl rfl (by decide +kernel) ⟨Nat.le_of_ble_eq_true rfl, Nat.le_of_ble_eq_true rfl⟩) (lw_Rq (ci := 6) (q := (RX6, TX6, 42)) (q0 := 0) rfl rfl gU_c (fun _ _ _ => trivial) hK hp hP hD) rfl rfl hl.1 rfl (lv_room (Nat.le_of_ble_eq_true rfl)) dL_law_1363 ⟨by show cells + 8 + 0 ≤ 650651; omega, by show slots + 64 + 0 ≤ 7144151; omega⟩) hp (pe_m _ _ _ _ _) hP hD hS hA (fun H locs hP hD hS => ?_)
  refine lv_istore (lv' := [(6, .int (rm_mode M (xs (nI i + 1).toNatClampNeg))), (5, .int (ofL T (xs (nI i + 1).toNatClampNeg) (fun s => lr_mode s ) 1)), (4, .int (nI i)), (0, .ref b), (1, .ref adB), (2, .ref (yq_adM am)), (3, .ref adU)]) hx hb dL_law_1366 hl (by decide) rfl (fun ls hl => ?_)
  refine lv_aload_n hx hb dL_law_1368 rfl (lv_at hl 5 rfl) ?_
  have hp : (wG cI cJ cO adU (ofL T (xs (nI i + 1).toNatClampNeg) (fun s => lo_mode s uo ) uo) adB adA lf bs a (onL T (xs (nI i + 1).toNatClampNeg) (fun s => lu_mode s )) (wM cI cJ cZ am (um_mode M (xs (nI i + 1).toNatClampNeg)))).Perm (([zX5 adB adA bs, zAL cO adA 3 lf, zAJ cJ adU 1 (ofL T (xs (nI i + 1).toNatClampNeg) (fun s => lo_mode s uo ) uo)] ++ (wL cI cJ a.1 (onL T (xs (nI i + 1).toNatClampNeg) (fun s => lu_mode s )).1 ++ (wL cI cJ a.2.1 (onL T (xs (nI i + 1).toNatClampNeg) (fun s => lu_mode s )).2.1 ++ wL cI cJ a.2.2 (onL T (xs (nI i + 1).toNatClampNeg) (fun s => lu_mode s )).2.2))) ++ (wM cI cJ cZ am (um_mode M (xs (nI i + 1).toNatClampNeg)))) := pe_m _ _ _ _ _
  refine lw_Ri2 (w1 := (wG cI cJ cO adU (ofL T (xs (nI i + 1).toNatClampNeg) (fun s => lo_mode s uo ) uo) adB adA lf bs a (onL T (xs (nI i + 1).toNatClampNeg) (fun s => lu_mode s )) (wM cI cJ cZ am (um_mode M (xs (nI i + 1).toNatClampNeg))))) (wl := ([zX5 adB adA bs, zAL cO adA 3 lf, zAJ cJ adU 1 (ofL T (xs (nI i + 1).toNatClampNeg) (fun s => lo_mode s uo ) uo)] ++ (wL cI cJ a.1 (onL T (xs (nI i + 1).toNatClampNeg) (fun s => lu_mode s )).1 ++ (wL cI cJ a.2.1 (onL T (xs (nI i + 1).toNatClampNeg) (fun s => lu_mode s )).2.1 ++ wL cI cJ a.2.2 (onL T (xs (nI i + 1).toNatClampNeg) (fun s => lu_mode s )).2.2)))) (wr := (wM cI cJ cZ am (um_mode M (xs (nI i + 1).toNatClampNeg)))) (wq := (wM cI cJ cZ am (um_thrown (um_mode M (xs (nI i + 1).toNatClampNeg))))) (rv := (rm_thrown (um_mode M (xs (nI i + 1).toNatClampNeg)))) (rest := []) (va_runV (As := []) (rest := []) ⟨hx, hb, hml, hown, hts⟩ (d_X6_thrown l dC dI cI cJ cZ cO am (um_mode M (xs (nI i + 1).toNatClampNeg)) _) (cwV 0 hts (gd_V wd_4_184 wd_4_185 wd_4_186 wd_1_7 wd_4_187) rfl rfl rfl (by decide +kernel) ⟨Nat.le_of_ble_eq_true rfl, Nat.le_of_ble_eq_true rfl⟩) (lw_Rq (ci := 6) (q := (RX6, TX6, 42)) (q0 := 0) rfl rfl gU_c (fun _ _ _ => trivial) hK hp hP hD) rfl rfl hl.1 rfl (lv_room (Nat.le_of_ble_eq_true rfl)) dL_law_1369 ⟨by show cells + 8 + 0 ≤ 650651; omega, by show slots + 64 + 0 ≤ 7144151; omega⟩) hp (pe_m _ _ _ _ _) hP hD hS hA (fun H locs hP hD hS => ?_)
  refine lv_iload hx hb dL_law_1372 (lv_at hl 1 rfl) ?_
  refine lv_icmp_eq (tgt := 1379) hx hb dL_law_1374 (by decide) (fun h9 => ?_) (fun h9 => absurd r1 h9)
  refine lv_iload hx hb dL_law_1379 (lv_at hl 1 rfl) ?_
  refine lv_if_ne (tgt := 1396) hx hb dL_law_1381 (by decide) (fun h8 => ?_) (fun h8 => ?_)
  · refine lv_goto (tgt := 1881) hx hb dL_law_1396 (by decide) ?_
    exact kk _ _ _ _ H locs ls r3 hP hD hS (lv_sub hl [2, 3, 4, 5, 6] rfl)
  · skip
    refine lv_aload_n hx hb dL_law_1384 rfl (lv_at hl 6 rfl) ?_
    refine lv_iconst (v := 0) hx hb dL_law_1385 (by decide) ?_
    refine va_lald hx hb hK hP 2 1 rfl rfl (i := (0 : Int32)) (ix_d (by decide)) dL_law_1386 ?_
    refine lv_iload hx hb dL_law_1387 (lv_at hl 0 rfl) ?_
    refine lv_i2l hx hb dL_law_1389 rfl ?_
    refine hh_ceq (tgt := 1396) hx hb dL_law_1390 dL_law_1391 (by decide) (fun h7 => ?_) (fun h7 => absurd (r2 h8) h7)
    refine lv_goto (tgt := 1881) hx hb dL_law_1396 (by decide) ?_
    exact kk _ _ _ _ H locs ls r3 hP hD hS (lv_sub hl [2, 3, 4, 5, 6] rfl)
end KO
