section KO
variable {p : Program} {l : Launch} {e : Env} {s : State} {m : MethodId} {below : List Frame} {meth : Method} {c : Code} {b L : Nat} {xs : Nat → Int32} {dC : Nat → ClassId} {dI : Nat → Nat → Nat} {cI cJ cZ cO : ClassId} {adU adB adA : Nat} {lf : Nat → Option Nat} {a : AT × AT × AT} {am : QT} {bs : Int32} {uo : Nat → Int64} {T : LT × LT × LT} {M : MT} {H : Heap} {locs : List Loc} {cells slots i : Nat} {ls : Array Slot} {Q : State → Prop}
set_option maxHeartbeats 4000000 in
theorem k_setPlant (K : KX p l s m meth c b L xs (dC, dI) cI cJ cZ cO lf a) (hR : Rel T bs M) (hi : i + 6 ≤ L) (hc : cells + 8 ≤ 650651) (hs : slots + 64 ≤ 7144151) (hP : va_P (dC, dI) vwCl (wG cI cJ cO adU uo adB adA lf bs a T (wM cI cJ cZ am M)) H) (hD : va_D (fun q => s.heap.size ≤ q) (wG cI cJ cO adU uo adB adA lf bs a T (wM cI cJ cZ am M))) (hS : va_S (fun q => s.heap.size ≤ q) s.heap H locs) (hl : lv_has ls 8 [(4, .int (nI i)), (0, .ref b), (1, .ref adB), (2, .ref (yq_adM am)), (3, .ref adU)])
    (kk : ∀ (uo : Nat → Int64) (bs : Int32) (T : LT × LT × LT) (M : MT) (H : Heap) (locs : List Loc) (ls : Array Slot), Rel T bs M → va_P (dC, dI) vwCl (wG cI cJ cO adU uo adB adA lf bs a T (wM cI cJ cZ am M)) H → va_D (fun q => s.heap.size ≤ q) (wG cI cJ cO adU uo adB adA lf bs a T (wM cI cJ cZ am M)) → va_S (fun q => s.heap.size ≤ q) s.heap H locs → lv_has ls 8 [(4, .int (nI i)), (0, .ref b), (1, .ref adB), (2, .ref (yq_adM am)), (3, .ref adU)] → W p l e room_1 s m #[Value.ref b] below meth c H locs (cells + 8) (slots + 64) Q (F0 m 1881 ls [])) : W p l e room_1 s m #[Value.ref b] below meth c H locs cells slots Q (F0 m 160 ls []) := by
  obtain ⟨hx, hb, hr, hml, hown, hts, hX, hbl, hlocks, hG, hfl, hK, hf0, hf1, hf2, hL⟩ := id K
  have hA : ∀ q : Nat, s.heap.size ≤ q → (fun q => s.heap.size ≤ q) q := fun _ h => h
  have hbA : ¬ (fun q => s.heap.size ≤ q) b := Nat.not_le.mpr hbl
  obtain ⟨r1, r3⟩ := rel_setPlant hR (xs (nI i + 1).toNatClampNeg) (xs (nI i + 2).toNatClampNeg) (xs (nI i + 3).toNatClampNeg) (xs (nI i + 4).toNatClampNeg) (xs (nI i + 5).toNatClampNeg)
  refine lv_aload_n hx hb dL_law_160 rfl (lv_at hl 2 rfl) ?_
  refine lv_aload_n hx hb dL_law_161 rfl (lv_at hl 1 rfl) ?_
  refine lv_iload hx hb dL_law_162 (lv_at hl 0 rfl) ?_
  refine lv_iconst (v := 1) hx hb dL_law_164 (by decide) ?_
  refine lv_iadd hx hb dL_law_165 ?_
  refine va_sld hx hb hX hbl hbA hS (lw_in (j := 1) (by decide) hi hL) dL_law_166 ?_
  refine lv_aload_n hx hb dL_law_167 rfl (lv_at hl 1 rfl) ?_
  refine lv_iload hx hb dL_law_168 (lv_at hl 0 rfl) ?_
  refine lv_iconst (v := 2) hx hb dL_law_170 (by decide) ?_
  refine lv_iadd hx hb dL_law_171 ?_
  refine va_sld hx hb hX hbl hbA hS (lw_in (j := 2) (by decide) hi hL) dL_law_172 ?_
  refine lv_aload_n hx hb dL_law_173 rfl (lv_at hl 1 rfl) ?_
  refine lv_iload hx hb dL_law_174 (lv_at hl 0 rfl) ?_
  refine lv_iconst (v := 3) hx hb dL_law_176 (by decide) ?_
  refine lv_iadd hx hb dL_law_177 ?_
  refine va_sld hx hb hX hbl hbA hS (lw_in (j := 3) (by decide) hi hL) dL_law_178 ?_
  refine lv_aload_n hx hb dL_law_179 rfl (lv_at hl 1 rfl) ?_
  refine lv_iload hx hb dL_law_180 (lv_at hl 0 rfl) ?_
  refine lv_iconst (v := 4) hx hb dL_law_182 (by decide) ?_
  refine lv_iadd hx hb dL_law_183 ?_
  refine va_sld hx hb hX hbl hbA hS (lw_in (j := 4) (by decide) hi hL) dL_law_184 ?_
  refine lv_aload_n hx hb dL_law_185 rfl (lv_at hl 1 rfl) ?_
  refine lv_iload hx hb dL_law_186 (lv_at hl 0 rfl) ?_
  refine lv_iconst (v := 5) hx hb dL_law_188 (by decide) ?_
  refine lv_iadd hx hb dL_law_189 ?_
  refine va_sld hx hb hX hbl hbA hS (lw_in (j := 5) (by decide) hi hL) dL_law_190 ?_
  refine s_setPlant K (xs (nI i + 1).toNatClampNeg) (xs (nI i + 2).toNatClampNeg) (xs (nI i + 3).toNatClampNeg) (xs (nI i + 4).toNatClampNeg) (xs (nI i + 5).toNatClampNeg)  hc hs hP hD hS hl.1 dL_law_191 (fun H locs hP hD hS => ?_)
  refine lv_istore (lv' := [(5, .int (ofL T (xs (nI i + 1).toNatClampNeg) (fun s => lr_setPlant s (xs (nI i + 2).toNatClampNeg) (xs (nI i + 3).toNatClampNeg) (xs (nI i + 4).toNatClampNeg) (xs (nI i + 5).toNatClampNeg)) 1)), (4, .int (nI i)), (0, .ref b), (1, .ref adB), (2, .ref (yq_adM am)), (3, .ref adU)]) hx hb dL_law_194 hl (by decide) rfl (fun ls hl => ?_)
  refine lv_aload_n hx hb dL_law_196 rfl (lv_at hl 4 rfl) ?_
  refine lv_aload_n hx hb dL_law_197 rfl (lv_at hl 2 rfl) ?_
  refine lv_iload hx hb dL_law_198 (lv_at hl 1 rfl) ?_
  refine lv_iconst (v := 1) hx hb dL_law_200 (by decide) ?_
  refine lv_iadd hx hb dL_law_201 ?_
  refine va_sld hx hb hX hbl hbA hS (lw_in (j := 1) (by decide) hi hL) dL_law_202 ?_
  refine lv_aload_n hx hb dL_law_203 rfl (lv_at hl 2 rfl) ?_
  refine lv_iload hx hb dL_law_204 (lv_at hl 1 rfl) ?_
  refine lv_iconst (v := 2) hx hb dL_law_206 (by decide) ?_
  refine lv_iadd hx hb dL_law_207 ?_
  refine va_sld hx hb hX hbl hbA hS (lw_in (j := 2) (by decide) hi hL) dL_law_208 ?_
  refine lv_aload_n hx hb dL_law_209 rfl (lv_at hl 2 rfl) ?_
  refine lv_iload hx hb dL_law_210 (lv_at hl 1 rfl) ?_
  refine lv_iconst (v := 3) hx hb dL_law_212 (by decide) ?_
  refine lv_iadd hx hb dL_law_213 ?_
  refine va_sld hx hb hX hbl hbA hS (lw_in (j := 3) (by decide) hi hL) dL_law_214 ?_
  refine lv_aload_n hx hb dL_law_215 rfl (lv_at hl 2 rfl) ?_
  refine lv_iload hx hb dL_law_216 (lv_at hl 1 rfl) ?_
  refine lv_iconst (v := 4) hx hb dL_law_218 (by decide) ?_
  refine lv_iadd hx hb dL_law_219 ?_
  refine va_sld hx hb hX hbl hbA hS (lw_in (j := 4) (by decide) hi hL) dL_law_220 ?_
  refine lv_aload_n hx hb dL_law_221 rfl (lv_at hl 2 rfl) ?_
  refine lv_iload hx hb dL_law_222 (lv_at hl 1 rfl) ?_
  refine lv_iconst (v := 5) hx hb dL_law_224 (by decide) ?_
  refine lv_iadd hx hb dL_law_225 ?_
  refine va_sld hx hb hX hbl hbA hS (lw_in (j := 5) (by decide) hi hL) dL_law_226 ?_
  have hp : (wG cI cJ cO adU (ofL T (xs (nI i + 1).toNatClampNeg) (fun s => lo_setPlant s uo (xs (nI i + 2).toNatClampNeg) (xs (nI i + 3).toNatClampNeg) (xs (nI i + 4).toNatClampNeg) (xs (nI i + 5).toNatClampNeg)) uo) adB adA lf bs a (onL T (xs (nI i + 1).toNatClampNeg) (fun s => lu_setPlant s (xs (nI i + 2).toNatClampNeg) (xs (nI i + 3).toNatClampNeg) (xs (nI i + 4).toNatClampNeg) (xs (nI i + 5).toNatClampNeg))) (wM cI cJ cZ am M)).Perm (([zX5 adB adA bs, zAL cO adA 3 lf, zAJ cJ adU 1 (ofL T (xs (nI i + 1).toNatClampNeg) (fun s => lo_setPlant s uo (xs (nI i + 2).toNatClampNeg) (xs (nI i + 3).toNatClampNeg) (xs (nI i + 4).toNatClampNeg) (xs (nI i + 5).toNatClampNeg)) uo)] ++ (wL cI cJ a.1 (onL T (xs (nI i + 1).toNatClampNeg) (fun s => lu_setPlant s (xs (nI i + 2).toNatClampNeg) (xs (nI i + 3).toNatClampNeg) (xs (nI i + 4).toNatClampNeg) (xs (nI i + 5).toNatClampNeg))).1 ++ (wL cI cJ a.2.1 (onL T (xs (nI i + 1).toNatClampNeg) (fun s => lu_setPlant s (xs (nI i + 2).toNatClampNeg) (xs (nI i + 3).toNatClampNeg) (xs (nI i + 4).toNatClampNeg) (xs (nI i + 5).toNatClampNeg))).2.1 ++ wL cI cJ a.2.2 (onL T (xs (nI i + 1).toNatClampNeg) (fun s => lu_setPlant s (xs (nI i + 2).toNatClampNeg) (xs (nI i + 3).toNatClampNeg) (xs (nI i + 4).toNatClampNeg) (xs (nI i + 5).toNatClampNeg))).2.2))) ++ (wM cI cJ cZ am M)) := pe_m _ _ _ _ _
  refine lw_Rv2 (w1 := (wG cI cJ cO adU (ofL T (xs (nI i + 1).toNatClampNeg) (fun s => lo_setPlant s uo (xs (nI i + 2).toNatClampNeg) (xs (nI i + 3).toNatClampNeg) (xs (nI i + 4).toNatClampNeg) (xs (nI i + 5).toNatClampNeg)) uo) adB adA lf bs a (onL T (xs (nI i + 1).toNatClampNeg) (fun s => lu_setPlant s (xs (nI i + 2).toNatClampNeg) (xs (nI i + 3).toNatClampNeg) (xs (nI i + 4).toNatClampNeg) (xs (nI i + 5).toNatClampNeg))) (wM cI cJ cZ am (um_setPlant M (xs (nI i + 1).toNatClampNeg) (xs (nI i + 2).toNatClampNeg) (xs (nI i + 3).toNatClampNeg) (xs (nI i + 4).toNatClampNeg) (xs (nI i + 5).toNatClampNeg))))) (wl := ([zX5 adB adA bs, zAL cO adA 3 lf, zAJ cJ adU 1 (ofL T (xs (nI i + 1).toNatClampNeg) (fun s => lo_setPlant s uo (xs (nI i + 2).toNatClampNeg) (xs (nI i + 3).toNatClampNeg) (xs (nI i + 4).toNatClampNeg) (xs (nI i + 5).toNatClampNeg)) uo)] ++ (wL cI cJ a.1 (onL T (xs (nI i + 1).toNatClampNeg) (fun s => lu_setPlant s (xs (nI i + 2).toNatClampNeg) (xs (nI i + 3).toNatClampNeg) (xs (nI i + 4).toNatClampNeg) (xs (nI i + 5).toNatClampNeg))).1 ++ (wL cI cJ a.2.1 (onL T (xs (nI i + 1).toNatClampNeg) (fun s => lu_setPlant s (xs (nI i + 2).toNatClampNeg) (xs (nI i + 3).toNatClampNeg) (xs (nI i + 4).toNatClampNeg) (xs (nI i + 5).toNatClampNeg))).2.1 ++ wL cI cJ a.2.2 (onL T (xs (nI i + 1).toNatClampNeg) (fun s => lu_setPlant s (xs (nI i + 2).toNatClampNeg) (xs (nI i + 3).toNatClampNeg) (xs (nI i + 4).toNatClampNeg) (xs (nI i + 5).toNatClampNeg))).2.2)))) (wr := (wM cI cJ cZ am M)) (wq := (wM cI cJ cZ am (um_setPlant M (xs (nI i + 1).toNatClampNeg) (xs (nI i + 2).toNatClampNeg) (xs (nI i + 3).toNatClampNeg) (xs (nI i + 4).toNatClampNeg) (xs (nI i + 5).toNatClampNeg)))) (rest := []) (va_runV (As := [.int (xs (nI i + 1).toNatClampNeg), .int (xs (nI i + 2).toNatClampNeg), .int (xs (nI i + 3).toNatClampNeg), .int (xs (nI i + 4).toNatClampNeg), .int (xs (nI i + 5).toNatClampNeg)]) (rest := []) ⟨hx, hb, hml, hown, hts⟩ (d_X6_setPlant l dC dI cI cJ cZ cO am M (xs (nI i + 1).toNatClampNeg) (xs (nI i + 2).toNatClampNeg) (xs (nI i + 3).toNatClampNeg) (xs (nI i + 4).toNatClampNeg) (xs (nI i + 5).toNatClampNeg) _ ) (cwV 5 hts (gd_V wd_4_188 wd_4_189 wd_4_190 wd_1_7 wd_4_191) rfl rfl rfl (by decide +kernel) ⟨Nat.le_of_ble_eq_true rfl, Nat.le_of_ble_eq_true rfl⟩) (lw_Rq (ci := 6) (q := (RX6, TX6, 42)) (q0 := 0) rfl rfl gU_c (fun _ _ _ => trivial) hK hp hP hD) rfl rfl hl.1 rfl (lv_room (Nat.le_of_ble_eq_true rfl)) dL_law_227 ⟨by show cells + 8 + 0 ≤ 650651; omega, by show slots + 64 + 0 ≤ 7144151; omega⟩) hp (pe_m _ _ _ _ _) hP hD hS hA (fun H locs hP hD hS => ?_)
  refine lv_aload_n hx hb dL_law_230 rfl (lv_at hl 4 rfl) ?_
  have hp : (wG cI cJ cO adU (ofL T (xs (nI i + 1).toNatClampNeg) (fun s => lo_setPlant s uo (xs (nI i + 2).toNatClampNeg) (xs (nI i + 3).toNatClampNeg) (xs (nI i + 4).toNatClampNeg) (xs (nI i + 5).toNatClampNeg)) uo) adB adA lf bs a (onL T (xs (nI i + 1).toNatClampNeg) (fun s => lu_setPlant s (xs (nI i + 2).toNatClampNeg) (xs (nI i + 3).toNatClampNeg) (xs (nI i + 4).toNatClampNeg) (xs (nI i + 5).toNatClampNeg))) (wM cI cJ cZ am (um_setPlant M (xs (nI i + 1).toNatClampNeg) (xs (nI i + 2).toNatClampNeg) (xs (nI i + 3).toNatClampNeg) (xs (nI i + 4).toNatClampNeg) (xs (nI i + 5).toNatClampNeg)))).Perm (([zX5 adB adA bs, zAL cO adA 3 lf, zAJ cJ adU 1 (ofL T (xs (nI i + 1).toNatClampNeg) (fun s => lo_setPlant s uo (xs (nI i + 2).toNatClampNeg) (xs (nI i + 3).toNatClampNeg) (xs (nI i + 4).toNatClampNeg) (xs (nI i + 5).toNatClampNeg)) uo)] ++ (wL cI cJ a.1 (onL T (xs (nI i + 1).toNatClampNeg) (fun s => lu_setPlant s (xs (nI i + 2).toNatClampNeg) (xs (nI i + 3).toNatClampNeg) (xs (nI i + 4).toNatClampNeg) (xs (nI i + 5).toNatClampNeg))).1 ++ (wL cI cJ a.2.1 (onL T (xs (nI i + 1).toNatClampNeg) (fun s => lu_setPlant s (xs (nI i + 2).toNatClampNeg) (xs (nI i + 3).toNatClampNeg) (xs (nI i + 4).toNatClampNeg) (xs (nI i + 5).toNatClampNeg))).2.1 ++ wL cI cJ a.2.2 (onL T (xs (nI i + 1).toNatClampNeg) (fun s => lu_setPlant s (xs (nI i + 2).toNatClampNeg) (xs (nI i + 3).toNatClampNeg) (xs (nI i + 4).toNatClampNeg) (xs (nI i + 5).toNatClampNeg))).2.2))) ++ (wM cI cJ cZ am (um_setPlant M (xs (nI i + 1).toNatClampNeg) (xs (nI i + 2).toNatClampNeg) (xs (nI i + 3).toNatClampNeg) (xs (nI i + 4).toNatClampNeg) (xs (nI i + 5).toNatClampNeg)))) := pe_m _ _ _ _ _
  refine lw_Ri2 (w1 := (wG cI cJ cO adU (ofL T (xs (nI i + 1).toNatClampNeg) (fun s => lo_setPlant s uo (xs (nI i + 2).toNatClampNeg) (xs (nI i + 3).toNatClampNeg) (xs (nI i + 4).toNatClampNeg) (xs (nI i + 5).toNatClampNeg)) uo) adB adA lf bs a (onL T (xs (nI i + 1).toNatClampNeg) (fun s => lu_setPlant s (xs (nI i + 2).toNatClampNeg) (xs (nI i + 3).toNatClampNeg) (xs (nI i + 4).toNatClampNeg) (xs (nI i + 5).toNatClampNeg))) (wM cI cJ cZ am (um_setPlant M (xs (nI i + 1).toNatClampNeg) (xs (nI i + 2).toNatClampNeg) (xs (nI i + 3).toNatClampNeg) (xs (nI i + 4).toNatClampNeg) (xs (nI i + 5).toNatClampNeg))))) (wl := ([zX5 adB adA bs, zAL cO adA 3 lf, zAJ cJ adU 1 (ofL T (xs (nI i + 1).toNatClampNeg) (fun s => lo_setPlant s uo (xs (nI i + 2).toNatClampNeg) (xs (nI i + 3).toNatClampNeg) (xs (nI i + 4).toNatClampNeg) (xs (nI i + 5).toNatClampNeg)) uo)] ++ (wL cI cJ a.1 (onL T (xs (nI i + 1).toNatClampNeg) (fun s => lu_setPlant s (xs (nI i + 2).toNatClampNeg) (xs (nI i + 3).toNatClampNeg) (xs (nI i + 4).toNatClampNeg) (xs (nI i + 5).toNatClampNeg))).1 ++ (wL cI cJ a.2.1 (onL T (xs (nI i + 1).toNatClampNeg) (fun s => lu_setPlant s (xs (nI i + 2).toNatClampNeg) (xs (nI i + 3).toNatClampNeg) (xs (nI i + 4).toNatClampNeg) (xs (nI i + 5).toNatClampNeg))).2.1 ++ wL cI cJ a.2.2 (onL T (xs (nI i + 1).toNatClampNeg) (fun s => lu_setPlant s (xs (nI i + 2).toNatClampNeg) (xs (nI i + 3).toNatClampNeg) (xs (nI i + 4).toNatClampNeg) (xs (nI i + 5).toNatClampNeg))).2.2)))) (wr := (wM cI cJ cZ am (um_setPlant M (xs (nI i + 1).toNatClampNeg) (xs (nI i + 2).toNatClampNeg) (xs (nI i + 3).toNatClampNeg) (xs (nI i + 4).toNatClampNeg) (xs (nI i + 5).toNatClampNeg)))) (wq := (wM cI cJ cZ am (um_thrown (um_setPlant M (xs (nI i + 1).toNatClampNeg) (xs (nI i + 2).toNatClampNeg) (xs (nI i + 3).toNatClampNeg) (xs (nI i + 4).toNatClampNeg) (xs (nI i + 5).toNatClampNeg))))) (rv := (rm_thrown (um_setPlant M (xs (nI i + 1).toNatClampNeg) (xs (nI i + 2).toNatClampNeg) (xs (nI i + 3).toNatClampNeg) (xs (nI i + 4).toNatClampNeg) (xs (nI i + 5).toNatClampNeg)))) (rest := []) (va_runV (As := []) (rest := []) ⟨hx, hb, hml, hown, hts⟩ (d_X6_thrown l dC dI cI cJ cZ cO am (um_setPlant M (xs (nI i + 1).toNatClampNeg) (xs (nI i + 2).toNatClampNeg) (xs (nI i + 3).toNatClampNeg) (xs (nI i + 4).toNatClampNeg) (xs (nI i + 5).toNatClampNeg)) _) (cwV 0 hts (gd_V wd_4_184 wd_4_185 wd_4_186 wd_1_7 wd_4_187) rfl rfl rfl (by decide +kernel) ⟨Nat.le_of_ble_eq_true rfl, Nat.le_of_ble_eq_true rfl⟩) (lw_Rq (ci := 6) (q := (RX6, TX6, 42)) (q0 := 0) rfl rfl gU_c (fun _ _ _ => trivial) hK hp hP hD) rfl rfl hl.1 rfl (lv_room (Nat.le_of_ble_eq_true rfl)) dL_law_231 ⟨by show cells + 8 + 0 ≤ 650651; omega, by show slots + 64 + 0 ≤ 7144151; omega⟩) hp (pe_m _ _ _ _ _) hP hD hS hA (fun H locs hP hD hS => ?_)
  refine lv_iload hx hb dL_law_234 (lv_at hl 0 rfl) ?_
  refine lv_icmp_eq (tgt := 241) hx hb dL_law_236 (by decide) (fun h9 => ?_) (fun h9 => absurd r1 h9)
  refine lv_goto (tgt := 1881) hx hb dL_law_241 (by decide) ?_
  exact kk _ _ _ _ H locs ls r3 hP hD hS (lv_sub hl [1, 2, 3, 4, 5] rfl)
set_option maxHeartbeats 4000000 in
theorem k_setLoad (K : KX p l s m meth c b L xs (dC, dI) cI cJ cZ cO lf a) (hR : Rel T bs M) (hi : i + 6 ≤ L) (hc : cells + 8 ≤ 650651) (hs : slots + 64 ≤ 7144151) (hP : va_P (dC, dI) vwCl (wG cI cJ cO adU uo adB adA lf bs a T (wM cI cJ cZ am M)) H) (hD : va_D (fun q => s.heap.size ≤ q) (wG cI cJ cO adU uo adB adA lf bs a T (wM cI cJ cZ am M))) (hS : va_S (fun q => s.heap.size ≤ q) s.heap H locs) (hl : lv_has ls 8 [(4, .int (nI i)), (0, .ref b), (1, .ref adB), (2, .ref (yq_adM am)), (3, .ref adU)])
    (kk : ∀ (uo : Nat → Int64) (bs : Int32) (T : LT × LT × LT) (M : MT) (H : Heap) (locs : List Loc) (ls : Array Slot), Rel T bs M → va_P (dC, dI) vwCl (wG cI cJ cO adU uo adB adA lf bs a T (wM cI cJ cZ am M)) H → va_D (fun q => s.heap.size ≤ q) (wG cI cJ cO adU uo adB adA lf bs a T (wM cI cJ cZ am M)) → va_S (fun q => s.heap.size ≤ q) s.heap H locs → lv_has ls 8 [(4, .int (nI i)), (0, .ref b), (1, .ref adB), (2, .ref (yq_adM am)), (3, .ref adU)] → W p l e room_1 s m #[Value.ref b] below meth c H locs (cells + 8) (slots + 64) Q (F0 m 1881 ls [])) : W p l e room_1 s m #[Value.ref b] below meth c H locs cells slots Q (F0 m 244 ls []) := by
  obtain ⟨hx, hb, hr, hml, hown, hts, hX, hbl, hlocks, hG, hfl, hK, hf0, hf1, hf2, hL⟩ := id K
  have hA : ∀ q : Nat, s.heap.size ≤ q → (fun q => s.heap.size ≤ q) q := fun _ h => h
  have hbA : ¬ (fun q => s.heap.size ≤ q) b := Nat.not_le.mpr hbl
  obtain ⟨r1, r2, r3⟩ := rel_setLoad hR (xs (nI i + 1).toNatClampNeg) (xs (nI i + 2).toNatClampNeg) uo
  refine lv_aload_n hx hb dL_law_244 rfl (lv_at hl 2 rfl) ?_
  refine lv_aload_n hx hb dL_law_245 rfl (lv_at hl 1 rfl) ?_
  refine lv_iload hx hb dL_law_246 (lv_at hl 0 rfl) ?_
  refine lv_iconst (v := 1) hx hb dL_law_248 (by decide) ?_
  refine lv_iadd hx hb dL_law_249 ?_
  refine va_sld hx hb hX hbl hbA hS (lw_in (j := 1) (by decide) hi hL) dL_law_250 ?_
  refine lv_aload_n hx hb dL_law_251 rfl (lv_at hl 1 rfl) ?_
  refine lv_iload hx hb dL_law_252 (lv_at hl 0 rfl) ?_
  refine lv_iconst (v := 2) hx hb dL_law_254 (by decide) ?_
  refine lv_iadd hx hb dL_law_255 ?_
  refine va_sld hx hb hX hbl hbA hS (lw_in (j := 2) (by decide) hi hL) dL_law_256 ?_
  refine lv_aload_n hx hb dL_law_257 rfl (lv_at hl 4 rfl) ?_
  refine s_setLoad K (xs (nI i + 1).toNatClampNeg) (xs (nI i + 2).toNatClampNeg)  hc hs hP hD hS hl.1 dL_law_258 (fun H locs hP hD hS => ?_)
  refine lv_istore (lv' := [(5, .int (ofL T (xs (nI i + 1).toNatClampNeg) (fun s => lr_setLoad s (xs (nI i + 2).toNatClampNeg)) 1)), (4, .int (nI i)), (0, .ref b), (1, .ref adB), (2, .ref (yq_adM am)), (3, .ref adU)]) hx hb dL_law_261 hl (by decide) rfl (fun ls hl => ?_)
  refine lv_aload_n hx hb dL_law_263 rfl (lv_at hl 4 rfl) ?_
  refine lv_aload_n hx hb dL_law_264 rfl (lv_at hl 2 rfl) ?_
  refine lv_iload hx hb dL_law_265 (lv_at hl 1 rfl) ?_
  refine lv_iconst (v := 1) hx hb dL_law_267 (by decide) ?_
  refine lv_iadd hx hb dL_law_268 ?_
  refine va_sld hx hb hX hbl hbA hS (lw_in (j := 1) (by decide) hi hL) dL_law_269 ?_
  refine lv_aload_n hx hb dL_law_270 rfl (lv_at hl 2 rfl) ?_
  refine lv_iload hx hb dL_law_271 (lv_at hl 1 rfl) ?_
  refine lv_iconst (v := 2) hx hb dL_law_273 (by decide) ?_
  refine lv_iadd hx hb dL_law_274 ?_
  refine va_sld hx hb hX hbl hbA hS (lw_in (j := 2) (by decide) hi hL) dL_law_275 ?_
  have hp : (wG cI cJ cO adU (ofL T (xs (nI i + 1).toNatClampNeg) (fun s => lo_setLoad s uo (xs (nI i + 2).toNatClampNeg)) uo) adB adA lf bs a (onL T (xs (nI i + 1).toNatClampNeg) (fun s => lu_setLoad s (xs (nI i + 2).toNatClampNeg))) (wM cI cJ cZ am M)).Perm (([zX5 adB adA bs, zAL cO adA 3 lf, zAJ cJ adU 1 (ofL T (xs (nI i + 1).toNatClampNeg) (fun s => lo_setLoad s uo (xs (nI i + 2).toNatClampNeg)) uo)] ++ (wL cI cJ a.1 (onL T (xs (nI i + 1).toNatClampNeg) (fun s => lu_setLoad s (xs (nI i + 2).toNatClampNeg))).1 ++ (wL cI cJ a.2.1 (onL T (xs (nI i + 1).toNatClampNeg) (fun s => lu_setLoad s (xs (nI i + 2).toNatClampNeg))).2.1 ++ wL cI cJ a.2.2 (onL T (xs (nI i + 1).toNatClampNeg) (fun s => lu_setLoad s (xs (nI i + 2).toNatClampNeg))).2.2))) ++ (wM cI cJ cZ am M)) := pe_m _ _ _ _ _
  refine lw_Ri2 (w1 := (wG cI cJ cO adU (ofL T (xs (nI i + 1).toNatClampNeg) (fun s => lo_setLoad s uo (xs (nI i + 2).toNatClampNeg)) uo) adB adA lf bs a (onL T (xs (nI i + 1).toNatClampNeg) (fun s => lu_setLoad s (xs (nI i + 2).toNatClampNeg))) (wM cI cJ cZ am (um_setLoad M (xs (nI i + 1).toNatClampNeg) (xs (nI i + 2).toNatClampNeg))))) (wl := ([zX5 adB adA bs, zAL cO adA 3 lf, zAJ cJ adU 1 (ofL T (xs (nI i + 1).toNatClampNeg) (fun s => lo_setLoad s uo (xs (nI i + 2).toNatClampNeg)) uo)] ++ (wL cI cJ a.1 (onL T (xs (nI i + 1).toNatClampNeg) (fun s => lu_setLoad s (xs (nI i + 2).toNatClampNeg))).1 ++ (wL cI cJ a.2.1 (onL T (xs (nI i + 1).toNatClampNeg) (fun s => lu_setLoad s (xs (nI i + 2).toNatClampNeg))).2.1 ++ wL cI cJ a.2.2 (onL T (xs (nI i + 1).toNatClampNeg) (fun s => lu_setLoad s (xs (nI i + 2).toNatClampNeg))).2.2)))) (wr := (wM cI cJ cZ am M)) (wq := (wM cI cJ cZ am (um_setLoad M (xs (nI i + 1).toNatClampNeg) (xs (nI i + 2).toNatClampNeg)))) (rv := (rm_setLoad M (xs (nI i + 1).toNatClampNeg) (xs (nI i + 2).toNatClampNeg))) (rest := []) (va_runV (As := [.int (xs (nI i + 1).toNatClampNeg), .int (xs (nI i + 2).toNatClampNeg)]) (rest := []) ⟨hx, hb, hml, hown, hts⟩ (d_X6_setLoad l dC dI cI cJ cZ cO am M (xs (nI i + 1).toNatClampNeg) (xs (nI i + 2).toNatClampNeg) _ ) (cwV 2 hts (gd_V wd_4_202 wd_4_203 wd_4_204 wd_1_7 wd_4_205) rfl rfl rfl (by decide +kernel) ⟨Nat.le_of_ble_eq_true rfl, Nat.le_of_ble_eq_true rfl⟩) (lw_Rq (ci := 6) (q := (RX6, TX6, 42)) (q0 := 0) rfl rfl gU_c (fun _ _ _ => trivial) hK hp hP hD) rfl rfl hl.1 rfl (lv_room (Nat.le_of_ble_eq_true rfl)) dL_law_276 ⟨by show cells + 8 + 0 ≤ 650651; omega, by show slots + 64 + 0 ≤ 7144151; omega⟩) hp (pe_m _ _ _ _ _) hP hD hS hA (fun H locs hP hD hS => ?_)
  refine lv_istore (lv' := [(6, .int (rm_setLoad M (xs (nI i + 1).toNatClampNeg) (xs (nI i + 2).toNatClampNeg))), (5, .int (ofL T (xs (nI i + 1).toNatClampNeg) (fun s => lr_setLoad s (xs (nI i + 2).toNatClampNeg)) 1)), (4, .int (nI i)), (0, .ref b), (1, .ref adB), (2, .ref (yq_adM am)), (3, .ref adU)]) hx hb dL_law_279 hl (by decide) rfl (fun ls hl => ?_)
  refine lv_aload_n hx hb dL_law_281 rfl (lv_at hl 5 rfl) ?_
  have hp : (wG cI cJ cO adU (ofL T (xs (nI i + 1).toNatClampNeg) (fun s => lo_setLoad s uo (xs (nI i + 2).toNatClampNeg)) uo) adB adA lf bs a (onL T (xs (nI i + 1).toNatClampNeg) (fun s => lu_setLoad s (xs (nI i + 2).toNatClampNeg))) (wM cI cJ cZ am (um_setLoad M (xs (nI i + 1).toNatClampNeg) (xs (nI i + 2).toNatClampNeg)))).Perm (([zX5 adB adA bs, zAL cO adA 3 lf, zAJ cJ adU 1 (ofL T (xs (nI i + 1).toNatClampNeg) (fun s => lo_setLoad s uo (xs (nI i + 2).toNatClampNeg)) uo)] ++ (wL cI cJ a.1 (onL T (xs (nI i + 1).toNatClampNeg) (fun s => lu_setLoad s (xs (nI i + 2).toNatClampNeg))).1 ++ (wL cI cJ a.2.1 (onL T (xs (nI i + 1).toNatClampNeg) (fun s => lu_setLoad s (xs (nI i + 2).toNatClampNeg))).2.1 ++ wL cI cJ a.2.2 (onL T (xs (nI i + 1).toNatClampNeg) (fun s => lu_setLoad s (xs (nI i + 2).toNatClampNeg))).2.2))) ++ (wM cI cJ cZ am (um_setLoad M (xs (nI i + 1).toNatClampNeg) (xs (nI i + 2).toNatClampNeg)))) := pe_m _ _ _ _ _
  refine lw_Ri2 (w1 := (wG cI cJ cO adU (ofL T (xs (nI i + 1).toNatClampNeg) (fun s => lo_setLoad s uo (xs (nI i + 2).toNatClampNeg)) uo) adB adA lf bs a (onL T (xs (nI i + 1).toNatClampNeg) (fun s => lu_setLoad s (xs (nI i + 2).toNatClampNeg))) (wM cI cJ cZ am (um_setLoad M (xs (nI i + 1).toNatClampNeg) (xs (nI i + 2).toNatClampNeg))))) (wl := ([zX5 adB adA bs, zAL cO adA 3 lf, zAJ cJ adU 1 (ofL T (xs (nI i + 1).toNatClampNeg) (fun s => lo_setLoad s uo (xs (nI i + 2).toNatClampNeg)) uo)] ++ (wL cI cJ a.1 (onL T (xs (nI i + 1).toNatClampNeg) (fun s => lu_setLoad s (xs (nI i + 2).toNatClampNeg))).1 ++ (wL cI cJ a.2.1 (onL T (xs (nI i + 1).toNatClampNeg) (fun s => lu_setLoad s (xs (nI i + 2).toNatClampNeg))).2.1 ++ wL cI cJ a.2.2 (onL T (xs (nI i + 1).toNatClampNeg) (fun s => lu_setLoad s (xs (nI i + 2).toNatClampNeg))).2.2)))) (wr := (wM cI cJ cZ am (um_setLoad M (xs (nI i + 1).toNatClampNeg) (xs (nI i + 2).toNatClampNeg)))) (wq := (wM cI cJ cZ am (um_thrown (um_setLoad M (xs (nI i + 1).toNatClampNeg) (xs (nI i + 2).toNatClampNeg))))) (rv := (rm_thrown (um_setLoad M (xs (nI i + 1).toNatClampNeg) (xs (nI i + 2).toNatClampNeg)))) (rest := []) (va_runV (As := []) (rest := []) ⟨hx, hb, hml, hown, hts⟩ (d_X6_thrown l dC dI cI cJ cZ cO am (um_setLoad M (xs (nI i + 1).toNatClampNeg) (xs (nI i + 2).toNatClampNeg)) _) (cwV 0 hts (gd_V wd_4_184 wd_4_185 wd_4_186 wd_1_7 wd_4_187) rfl rfl rfl (by decide +kernel) ⟨Nat.le_of_ble_eq_true rfl, Nat.le_of_ble_eq_true rfl⟩) (lw_Rq (ci := 6) (q := (RX6, TX6, 42)) (q0 := 0) rfl rfl gU_c (fun _ _ _ => trivial) hK hp hP hD) rfl rfl hl.1 rfl (lv_room (Nat.le_of_ble_eq_true rfl)) dL_law_282 ⟨by show cells + 8 + 0 ≤ 650651; omega, by show slots + 64 + 0 ≤ 7144151; omega⟩) hp (pe_m _ _ _ _ _) hP hD hS hA (fun H locs hP hD hS => ?_)
  refine lv_iload hx hb dL_law_285 (lv_at hl 1 rfl) ?_
  refine lv_icmp_eq (tgt := 292) hx hb dL_law_287 (by decide) (fun h9 => ?_) (fun h9 => absurd r1 h9)
  refine lv_iload hx hb dL_law_292 (lv_at hl 1 rfl) ?_
  refine lv_if_ne (tgt := 309) hx hb dL_law_294 (by decide) (fun h8 => ?_) (fun h8 => ?_)
  · refine lv_goto (tgt := 1881) hx hb dL_law_309 (by decide) ?_
    exact kk _ _ _ _ H locs ls r3 hP hD hS (lv_sub hl [2, 3, 4, 5, 6] rfl)
  · skip
    refine lv_aload_n hx hb dL_law_297 rfl (lv_at hl 6 rfl) ?_
    refine lv_iconst (v := 0) hx hb dL_law_298 (by decide) ?_
    refine va_lald hx hb hK hP 2 1 rfl rfl (i := (0 : Int32)) (ix_d (by decide)) dL_law_299 ?_
    refine lv_iload hx hb dL_law_300 (lv_at hl 0 rfl) ?_
    refine lv_i2l hx hb dL_law_302 rfl ?_
    refine hh_ceq (tgt := 309) hx hb dL_law_303 dL_law_304 (by decide) (fun h7 => ?_) (fun h7 => absurd (r2 h8) h7)
    refine lv_goto (tgt := 1881) hx hb dL_law_309 (by decide) ?_
    exact kk _ _ _ _ H locs ls r3 hP hD hS (lv_sub hl [2, 3, 4, 5, 6] rfl)
set_option maxHeartbeats 4000000 in
theorem k_setGains (K : KX p l s m meth c b L xs (dC, dI) cI cJ cZ cO lf a) (hR : Rel T bs M) (hi : i + 6 ≤ L) (hc : cells + 8 ≤ 650651) (hs : slots + 64 ≤ 7144151) (hP : va_P (dC, dI) vwCl (wG cI cJ cO adU uo adB adA lf bs a T (wM cI cJ cZ am M)) H) (hD : va_D (fun q => s.heap.size ≤ q) (wG cI cJ cO adU uo adB adA lf bs a T (wM cI cJ cZ am M))) (hS : va_S (fun q => s.heap.size ≤ q) s.heap H locs) (hl : lv_has ls 8 [(4, .int (nI i)), (0, .ref b), (1, .ref adB), (2, .ref (yq_adM am)), (3, .ref adU)])
    (kk : ∀ (uo : Nat → Int64) (bs : Int32) (T : LT × LT × LT) (M : MT) (H : Heap) (locs : List Loc) (ls : Array Slot), Rel T bs M → va_P (dC, dI) vwCl (wG cI cJ cO adU uo adB adA lf bs a T (wM cI cJ cZ am M)) H → va_D (fun q => s.heap.size ≤ q) (wG cI cJ cO adU uo adB adA lf bs a T (wM cI cJ cZ am M)) → va_S (fun q => s.heap.size ≤ q) s.heap H locs → lv_has ls 8 [(4, .int (nI i)), (0, .ref b), (1, .ref adB), (2, .ref (yq_adM am)), (3, .ref adU)] → W p l e room_1 s m #[Value.ref b] below meth c H locs (cells + 8) (slots + 64) Q (F0 m 1881 ls [])) : W p l e room_1 s m #[Value.ref b] below meth c H locs cells slots Q (F0 m 312 ls []) := by
  obtain ⟨hx, hb, hr, hml, hown, hts, hX, hbl, hlocks, hG, hfl, hK, hf0, hf1, hf2, hL⟩ := id K
  have hA : ∀ q : Nat, s.heap.size ≤ q → (fun q => s.heap.size ≤ q) q := fun _ h => h
  have hbA : ¬ (fun q => s.heap.size ≤ q) b := Nat.not_le.mpr hbl
  obtain ⟨r1, r2, r3⟩ := rel_setGains hR (xs (nI i + 1).toNatClampNeg) (xs (nI i + 2).toNatClampNeg) (xs (nI i + 3).toNatClampNeg) (xs (nI i + 4).toNatClampNeg) uo
  refine lv_aload_n hx hb dL_law_312 rfl (lv_at hl 2 rfl) ?_
  refine lv_aload_n hx hb dL_law_313 rfl (lv_at hl 1 rfl) ?_
  refine lv_iload hx hb dL_law_314 (lv_at hl 0 rfl) ?_
  refine lv_iconst (v := 1) hx hb dL_law_316 (by decide) ?_
  refine lv_iadd hx hb dL_law_317 ?_
  refine va_sld hx hb hX hbl hbA hS (lw_in (j := 1) (by decide) hi hL) dL_law_318 ?_
  refine lv_aload_n hx hb dL_law_319 rfl (lv_at hl 1 rfl) ?_
  refine lv_iload hx hb dL_law_320 (lv_at hl 0 rfl) ?_
  refine lv_iconst (v := 2) hx hb dL_law_322 (by decide) ?_
  refine lv_iadd hx hb dL_law_323 ?_
  refine va_sld hx hb hX hbl hbA hS (lw_in (j := 2) (by decide) hi hL) dL_law_324 ?_
  refine lv_aload_n hx hb dL_law_325 rfl (lv_at hl 1 rfl) ?_
  refine lv_iload hx hb dL_law_326 (lv_at hl 0 rfl) ?_
  refine lv_iconst (v := 3) hx hb dL_law_328 (by decide) ?_
  refine lv_iadd hx hb dL_law_329 ?_
  refine va_sld hx hb hX hbl hbA hS (lw_in (j := 3) (by decide) hi hL) dL_law_330 ?_
  refine lv_aload_n hx hb dL_law_331 rfl (lv_at hl 1 rfl) ?_
  refine lv_iload hx hb dL_law_332 (lv_at hl 0 rfl) ?_
  refine lv_iconst (v := 4) hx hb dL_law_334 (by decide) ?_
  refine lv_iadd hx hb dL_law_335 ?_
  refine va_sld hx hb hX hbl hbA hS (lw_in (j := 4) (by decide) hi hL) dL_law_336 ?_
  refine lv_aload_n hx hb dL_law_337 rfl (lv_at hl 4 rfl) ?_
  refine s_setGains K (xs (nI i + 1).toNatClampNeg) (xs (nI i + 2).toNatClampNeg) (xs (nI i + 3).toNatClampNeg) (xs (nI i + 4).toNatClampNeg)  hc hs hP hD hS hl.1 dL_law_338 (fun H locs hP hD hS => ?_)
  refine lv_istore (lv' := [(5, .int (ofL T (xs (nI i + 1).toNatClampNeg) (fun s => lr_setGains s (xs (nI i + 2).toNatClampNeg) (xs (nI i + 3).toNatClampNeg) (xs (nI i + 4).toNatClampNeg)) 1)), (4, .int (nI i)), (0, .ref b), (1, .ref adB), (2, .ref (yq_adM am)), (3, .ref adU)]) hx hb dL_law_341 hl (by decide) rfl (fun ls hl => ?_)
  refine lv_aload_n hx hb dL_law_343 rfl (lv_at hl 4 rfl) ?_
  refine lv_aload_n hx hb dL_law_344 rfl (lv_at hl 2 rfl) ?_
  refine lv_iload hx hb dL_law_345 (lv_at hl 1 rfl) ?_
  refine lv_iconst (v := 1) hx hb dL_law_347 (by decide) ?_
  refine lv_iadd hx hb dL_law_348 ?_
  refine va_sld hx hb hX hbl hbA hS (lw_in (j := 1) (by decide) hi hL) dL_law_349 ?_
  refine lv_aload_n hx hb dL_law_350 rfl (lv_at hl 2 rfl) ?_
  refine lv_iload hx hb dL_law_351 (lv_at hl 1 rfl) ?_
  refine lv_iconst (v := 2) hx hb dL_law_353 (by decide) ?_
  refine lv_iadd hx hb dL_law_354 ?_
  refine va_sld hx hb hX hbl hbA hS (lw_in (j := 2) (by decide) hi hL) dL_law_355 ?_
  refine lv_aload_n hx hb dL_law_356 rfl (lv_at hl 2 rfl) ?_
  refine lv_iload hx hb dL_law_357 (lv_at hl 1 rfl) ?_
  refine lv_iconst (v := 3) hx hb dL_law_359 (by decide) ?_
  refine lv_iadd hx hb dL_law_360 ?_
  refine va_sld hx hb hX hbl hbA hS (lw_in (j := 3) (by decide) hi hL) dL_law_361 ?_
  refine lv_aload_n hx hb dL_law_362 rfl (lv_at hl 2 rfl) ?_
  refine lv_iload hx hb dL_law_363 (lv_at hl 1 rfl) ?_
  refine lv_iconst (v := 4) hx hb dL_law_365 (by decide) ?_
  refine lv_iadd hx hb dL_law_366 ?_
  refine va_sld hx hb hX hbl hbA hS (lw_in (j := 4) (by decide) hi hL) dL_law_367 ?_
  have hp : (wG cI cJ cO adU (ofL T (xs (nI i + 1).toNatClampNeg) (fun s => lo_setGains s uo (xs (nI i + 2).toNatClampNeg) (xs (nI i + 3).toNatClampNeg) (xs (nI i + 4).toNatClampNeg)) uo) adB adA lf bs a (onL T (xs (nI i + 1).toNatClampNeg) (fun s => lu_setGains s (xs (nI i + 2).toNatClampNeg) (xs (nI i + 3).toNatClampNeg) (xs (nI i + 4).toNatClampNeg))) (wM cI cJ cZ am M)).Perm (([zX5 adB adA bs, zAL cO adA 3 lf, zAJ cJ adU 1 (ofL T (xs (nI i + 1).toNatClampNeg) (fun s => lo_setGains s uo (xs (nI i + 2).toNatClampNeg) (xs (nI i + 3).toNatClampNeg) (xs (nI i + 4).toNatClampNeg)) uo)] ++ (wL cI cJ a.1 (onL T (xs (nI i + 1).toNatClampNeg) (fun s => lu_setGains s (xs (nI i + 2).toNatClampNeg) (xs (nI i + 3).toNatClampNeg) (xs (nI i + 4).toNatClampNeg))).1 ++ (wL cI cJ a.2.1 (onL T (xs (nI i + 1).toNatClampNeg) (fun s => lu_setGains s (xs (nI i + 2).toNatClampNeg) (xs (nI i + 3).toNatClampNeg) (xs (nI i + 4).toNatClampNeg))).2.1 ++ wL cI cJ a.2.2 (onL T (xs (nI i + 1).toNatClampNeg) (fun s => lu_setGains s (xs (nI i + 2).toNatClampNeg) (xs (nI i + 3).toNatClampNeg) (xs (nI i + 4).toNatClampNeg))).2.2))) ++ (wM cI cJ cZ am M)) := pe_m _ _ _ _ _
  refine lw_Ri2 (w1 := (wG cI cJ cO adU (ofL T (xs (nI i + 1).toNatClampNeg) (fun s => lo_setGains s uo (xs (nI i + 2).toNatClampNeg) (xs (nI i + 3).toNatClampNeg) (xs (nI i + 4).toNatClampNeg)) uo) adB adA lf bs a (onL T (xs (nI i + 1).toNatClampNeg) (fun s => lu_setGains s (xs (nI i + 2).toNatClampNeg) (xs (nI i + 3).toNatClampNeg) (xs (nI i + 4).toNatClampNeg))) (wM cI cJ cZ am (um_setGains M (xs (nI i + 1).toNatClampNeg) (xs (nI i + 2).toNatClampNeg) (xs (nI i + 3).toNatClampNeg) (xs (nI i + 4).toNatClampNeg))))) (wl := ([zX5 adB adA bs, zAL cO adA 3 lf, zAJ cJ adU 1 (ofL T (xs (nI i + 1).toNatClampNeg) (fun s => lo_setGains s uo (xs (nI i + 2).toNatClampNeg) (xs (nI i + 3).toNatClampNeg) (xs (nI i + 4).toNatClampNeg)) uo)] ++ (wL cI cJ a.1 (onL T (xs (nI i + 1).toNatClampNeg) (fun s => lu_setGains s (xs (nI i + 2).toNatClampNeg) (xs (nI i + 3).toNatClampNeg) (xs (nI i + 4).toNatClampNeg))).1 ++ (wL cI cJ a.2.1 (onL T (xs (nI i + 1).toNatClampNeg) (fun s => lu_setGains s (xs (nI i + 2).toNatClampNeg) (xs (nI i + 3).toNatClampNeg) (xs (nI i + 4).toNatClampNeg))).2.1 ++ wL cI cJ a.2.2 (onL T (xs (nI i + 1).toNatClampNeg) (fun s => lu_setGains s (xs (nI i + 2).toNatClampNeg) (xs (nI i + 3).toNatClampNeg) (xs (nI i + 4).toNatClampNeg))).2.2)))) (wr := (wM cI cJ cZ am M)) (wq := (wM cI cJ cZ am (um_setGains M (xs (nI i + 1).toNatClampNeg) (xs (nI i + 2).toNatClampNeg) (xs (nI i + 3).toNatClampNeg) (xs (nI i + 4).toNatClampNeg)))) (rv := (rm_setGains M (xs (nI i + 1).toNatClampNeg) (xs (nI i + 2).toNatClampNeg) (xs (nI i + 3).toNatClampNeg) (xs (nI i + 4).toNatClampNeg))) (rest := []) (va_runV (As := [.int (xs (nI i + 1).toNatClampNeg), .int (xs (nI i + 2).toNatClampNeg), .int (xs (nI i + 3).toNatClampNeg), .int (xs (nI i + 4).toNatClampNeg)]) (rest := []) ⟨hx, hb, hml, hown, hts⟩ (d_X6_setGains l dC dI cI cJ cZ cO am M (xs (nI i + 1).toNatClampNeg) (xs (nI i + 2).toNatClampNeg) (xs (nI i + 3).toNatClampNeg) (xs (nI i + 4).toNatClampNeg) _ ) (cwV 4 hts (gd_V wd_4_206 wd_4_207 wd_4_208 wd_1_7 wd_4_209) rfl rfl rfl (by decide +kernel) ⟨Nat.le_of_ble_eq_true rfl, Nat.le_of_ble_eq_true rfl⟩) (lw_Rq (ci := 6) (q := (RX6, TX6, 42)) (q0 := 0) rfl rfl gU_c (fun _ _ _ => trivial) hK hp hP hD) rfl rfl hl.1 rfl (lv_room (Nat.le_of_ble_eq_true rfl)) dL_law_368 ⟨by show cells + 8 + 0 ≤ 650651; omega, by show slots + 64 + 0 ≤ 7144151; omega⟩) hp (pe_m _ _ _ _ _) hP hD hS hA (fun H locs hP hD hS => ?_)
  refine lv_istore (lv' := [(6, .int (rm_setGains M (xs (nI i + 1).toNatClampNeg) (xs (nI i + 2).toNatClampNeg) (xs (nI i + 3).toNatClampNeg) (xs (nI i + 4).toNatClampNeg))), (5, .int (ofL T (xs (nI i + 1).toNatClampNeg) (fun s => lr_setGains s (xs (nI i + 2).toNatClampNeg) (xs (nI i + 3).toNatClampNeg) (xs (nI i + 4).toNatClampNeg)) 1)), (4, .int (nI i)), (0, .ref b), (1, .ref adB), (2, .ref (yq_adM am)), (3, .ref adU)]) hx hb dL_law_371 hl (by decide) rfl (fun ls hl => ?_)
  refine lv_aload_n hx hb dL_law_373 rfl (lv_at hl 5 rfl) ?_
  have hp : (wG cI cJ cO adU (ofL T (xs (nI i + 1).toNatClampNeg) (fun s => lo_setGains s uo (xs (nI i + 2).toNatClampNeg) (xs (nI i + 3).toNatClampNeg) (xs (nI i + 4).toNatClampNeg)) uo) adB adA lf bs a (onL T (xs (nI i + 1).toNatClampNeg) (fun s => lu_setGains s (xs (nI i + 2).toNatClampNeg) (xs (nI i + 3).toNatClampNeg) (xs (nI i + 4).toNatClampNeg))) (wM cI cJ cZ am (um_setGains M (xs (nI i + 1).toNatClampNeg) (xs (nI i + 2).toNatClampNeg) (xs (nI i + 3).toNatClampNeg) (xs (nI i + 4).toNatClampNeg)))).Perm (([zX5 adB adA bs, zAL cO adA 3 lf, zAJ cJ adU 1 (ofL T (xs (nI i + 1).toNatClampNeg) (fun s => lo_setGains s uo (xs (nI i + 2).toNatClampNeg) (xs (nI i + 3).toNatClampNeg) (xs (nI i + 4).toNatClampNeg)) uo)] ++ (wL cI cJ a.1 (onL T (xs (nI i + 1).toNatClampNeg) (fun s => lu_setGains s (xs (nI i + 2).toNatClampNeg) (xs (nI i + 3).toNatClampNeg) (xs (nI i + 4).toNatClampNeg))).1 ++ (wL cI cJ a.2.1 (onL T (xs (nI i + 1).toNatClampNeg) (fun s => lu_setGains s (xs (nI i + 2).toNatClampNeg) (xs (nI i + 3).toNatClampNeg) (xs (nI i + 4).toNatClampNeg))).2.1 ++ wL cI cJ a.2.2 (onL T (xs (nI i + 1).toNatClampNeg) (fun s => lu_setGains s (xs (nI i + 2).toNatClampNeg) (xs (nI i + 3).toNatClampNeg) (xs (nI i + 4).toNatClampNeg))).2.2))) ++ (wM cI cJ cZ am (um_setGains M (xs (nI i + 1).toNatClampNeg) (xs (nI i + 2).toNatClampNeg) (xs (nI i + 3).toNatClampNeg) (xs (nI i + 4).toNatClampNeg)))) := pe_m _ _ _ _ _
  refine lw_Ri2 (w1 := (wG cI cJ cO adU (ofL T (xs (nI i + 1).toNatClampNeg) (fun s => lo_setGains s uo (xs (nI i + 2).toNatClampNeg) (xs (nI i + 3).toNatClampNeg) (xs (nI i + 4).toNatClampNeg)) uo) adB adA lf bs a (onL T (xs (nI i + 1).toNatClampNeg) (fun s => lu_setGains s (xs (nI i + 2).toNatClampNeg) (xs (nI i + 3).toNatClampNeg) (xs (nI i + 4).toNatClampNeg))) (wM cI cJ cZ am (um_setGains M (xs (nI i + 1).toNatClampNeg) (xs (nI i + 2).toNatClampNeg) (xs (nI i + 3).toNatClampNeg) (xs (nI i + 4).toNatClampNeg))))) (wl := ([zX5 adB adA bs, zAL cO adA 3 lf, zAJ cJ adU 1 (ofL T (xs (nI i + 1).toNatClampNeg) (fun s => lo_setGains s uo (xs (nI i + 2).toNatClampNeg) (xs (nI i + 3).toNatClampNeg) (xs (nI i + 4).toNatClampNeg)) uo)] ++ (wL cI cJ a.1 (onL T (xs (nI i + 1).toNatClampNeg) (fun s => lu_setGains s (xs (nI i + 2).toNatClampNeg) (xs (nI i + 3).toNatClampNeg) (xs (nI i + 4).toNatClampNeg))).1 ++ (wL cI cJ a.2.1 (onL T (xs (nI i + 1).toNatClampNeg) (fun s => lu_setGains s (xs (nI i + 2).toNatClampNeg) (xs (nI i + 3).toNatClampNeg) (xs (nI i + 4).toNatClampNeg))).2.1 ++ wL cI cJ a.2.2 (onL T (xs (nI i + 1).toNatClampNeg) (fun s => lu_setGains s (xs (nI i + 2).toNatClampNeg) (xs (nI i + 3).toNatClampNeg) (xs (nI i + 4).toNatClampNeg))).2.2)))) (wr := (wM cI cJ cZ am (um_setGains M (xs (nI i + 1).toNatClampNeg) (xs (nI i + 2).toNatClampNeg) (xs (nI i + 3).toNatClampNeg) (xs (nI i + 4).toNatClampNeg)))) (wq := (wM cI cJ cZ am (um_thrown (um_setGains M (xs (nI i + 1).toNatClampNeg) (xs (nI i + 2).toNatClampNeg) (xs (nI i + 3).toNatClampNeg) (xs (nI i + 4).toNatClampNeg))))) (rv := (rm_thrown (um_setGains M (xs (nI i + 1).toNatClampNeg) (xs (nI i + 2).toNatClampNeg) (xs (nI i + 3).toNatClampNeg) (xs (nI i + 4).toNatClampNeg)))) (rest := []) (va_runV (As := []) (rest := []) ⟨hx, hb, hml, hown, hts⟩ (d_X6_thrown l dC dI cI cJ cZ cO am (um_setGains M (xs (nI i + 1).toNatClampNeg) (xs (nI i + 2).toNatClampNeg) (xs (nI i + 3).toNatClampNeg) (xs (nI i + 4).toNatClampNeg)) _) (cwV 0 hts (gd_V wd_4_184 wd_4_185 wd_4_186 wd_1_7 wd_4_187) rfl rfl rfl (by decide +kernel) ⟨Nat.le_of_ble_eq_true rfl, Nat.le_of_ble_eq_true rfl⟩) (lw_Rq (ci := 6) (q := (RX6, TX6, 42)) (q0 := 0) rfl rfl gU_c (fun _ _ _ => trivial) hK hp hP hD) rfl rfl hl.1 rfl (lv_room (Nat.le_of_ble_eq_true rfl)) dL_law_374 ⟨by show cells + 8 + 0 ≤ 650651; omega, by show slots + 64 + 0 ≤ 7144151; omega⟩) hp (pe_m _ _ _ _ _) hP hD hS hA (fun H locs hP hD hS => ?_)
  refine lv_iload hx hb dL_law_377 (lv_at hl 1 rfl) ?_
  refine lv_icmp_eq (tgt := 384) hx hb dL_law_379 (by decide) (fun h9 => ?_) (fun h9 => absurd r1 h9)
  refine lv_iload hx hb dL_law_384 (lv_at hl 1 rfl) ?_
  refine lv_if_ne (tgt := 401) hx hb dL_law_386 (by decide) (fun h8 => ?_) (fun h8 => ?_)
  · refine lv_goto (tgt := 1881) hx hb dL_law_401 (by decide) ?_
    exact kk _ _ _ _ H locs ls r3 hP hD hS (lv_sub hl [2, 3, 4, 5, 6] rfl)
  · skip
    refine lv_aload_n hx hb dL_law_389 rfl (lv_at hl 6 rfl) ?_
    refine lv_iconst (v := 0) hx hb dL_law_390 (by decide) ?_
    refine va_lald hx hb hK hP 2 1 rfl rfl (i := (0 : Int32)) (ix_d (by decide)) dL_law_391 ?_
    refine lv_iload hx hb dL_law_392 (lv_at hl 0 rfl) ?_
    refine lv_i2l hx hb dL_law_394 rfl ?_
    refine hh_ceq (tgt := 401) hx hb dL_law_395 dL_law_396 (by decide) (fun h7 => ?_) (fun h7 => absurd (r2 h8) h7)
    refine lv_goto (tgt := 1881) hx hb dL_law_401 (by decide) ?_
    exact kk _ _ _ _ H locs ls r3 hP hD hS (lv_sub hl [2, 3, 4, 5, 6] rfl)
set_option maxHeartbeats 4000000 in
theorem k_addPoint (K : KX p l s m meth c b L xs (dC, dI) cI cJ cZ cO lf a) (hR : Rel T bs M) (hi : i + 6 ≤ L) (hc : cells + 8 ≤ 650651) (hs : slots + 64 ≤ 7144151) (hP : va_P (dC, dI) vwCl (wG cI cJ cO adU uo adB adA lf bs a T (wM cI cJ cZ am M)) H) (hD : va_D (fun q => s.heap.size ≤ q) (wG cI cJ cO adU uo adB adA lf bs a T (wM cI cJ cZ am M))) (hS : va_S (fun q => s.heap.size ≤ q) s.heap H locs) (hl : lv_has ls 8 [(4, .int (nI i)), (0, .ref b), (1, .ref adB), (2, .ref (yq_adM am)), (3, .ref adU)])
    (kk : ∀ (uo : Nat → Int64) (bs : Int32) (T : LT × LT × LT) (M : MT) (H : Heap) (locs : List Loc) (ls : Array Slot), Rel T bs M → va_P (dC, dI) vwCl (wG cI cJ cO adU uo adB adA lf bs a T (wM cI cJ cZ am M)) H → va_D (fun q => s.heap.size ≤ q) (wG cI cJ cO adU uo adB adA lf bs a T (wM cI cJ cZ am M)) → va_S (fun q => s.heap.size ≤ q) s.heap H locs → lv_has ls 8 [(4, .int (nI i)), (0, .ref b), (1, .ref adB), (2, .ref (yq_adM am)), (3, .ref adU)] → W p l e room_1 s m #[Value.ref b] below meth c H locs (cells + 8) (slots + 64) Q (F0 m 1881 ls [])) : W p l e room_1 s m #[Value.ref b] below meth c H locs cells slots Q (F0 m 404 ls []) := by
  obtain ⟨hx, hb, hr, hml, hown, hts, hX, hbl, hlocks, hG, hfl, hK, hf0, hf1, hf2, hL⟩ := id K
  have hA : ∀ q : Nat, s.heap.size ≤ q → (fun q => s.heap.size ≤ q) q := fun _ h => h
  have hbA : ¬ (fun q => s.heap.size ≤ q) b := Nat.not_le.mpr hbl
  obtain ⟨r1, r2, r3⟩ := rel_addPoint hR (xs (nI i + 1).toNatClampNeg) (xs (nI i + 2).toNatClampNeg) (xs (nI i + 3).toNatClampNeg) (xs (nI i + 4).toNatClampNeg) (xs (nI i + 5).toNatClampNeg) uo
  refine lv_aload_n hx hb dL_law_404 rfl (lv_at hl 2 rfl) ?_
  refine lv_aload_n hx hb dL_law_405 rfl (lv_at hl 1 rfl) ?_
  refine lv_iload hx hb dL_law_406 (lv_at hl 0 rfl) ?_
  refine lv_iconst (v := 1) hx hb dL_law_408 (by decide) ?_
  refine lv_iadd hx hb dL_law_409 ?_
  refine va_sld hx hb hX hbl hbA hS (lw_in (j := 1) (by decide) hi hL) dL_law_410 ?_
  refine lv_aload_n hx hb dL_law_411 rfl (lv_at hl 1 rfl) ?_
  refine lv_iload hx hb dL_law_412 (lv_at hl 0 rfl) ?_
  refine lv_iconst (v := 2) hx hb dL_law_414 (by decide) ?_
  refine lv_iadd hx hb dL_law_415 ?_
  refine va_sld hx hb hX hbl hbA hS (lw_in (j := 2) (by decide) hi hL) dL_law_416 ?_
  refine lv_aload_n hx hb dL_law_417 rfl (lv_at hl 1 rfl) ?_
  refine lv_iload hx hb dL_law_418 (lv_at hl 0 rfl) ?_
  refine lv_iconst (v := 3) hx hb dL_law_420 (by decide) ?_
  refine lv_iadd hx hb dL_law_421 ?_
  refine va_sld hx hb hX hbl hbA hS (lw_in (j := 3) (by decide) hi hL) dL_law_422 ?_
  refine lv_aload_n hx hb dL_law_423 rfl (lv_at hl 1 rfl) ?_
  refine lv_iload hx hb dL_law_424 (lv_at hl 0 rfl) ?_
  refine lv_iconst (v := 4) hx hb dL_law_426 (by decide) ?_
  refine lv_iadd hx hb dL_law_427 ?_
  refine va_sld hx hb hX hbl hbA hS (lw_in (j := 4) (by decide) hi hL) dL_law_428 ?_
  refine lv_aload_n hx hb dL_law_429 rfl (lv_at hl 1 rfl) ?_
  refine lv_iload hx hb dL_law_430 (lv_at hl 0 rfl) ?_
  refine lv_iconst (v := 5) hx hb dL_law_432 (by decide) ?_
  refine lv_iadd hx hb dL_law_433 ?_
  refine va_sld hx hb hX hbl hbA hS (lw_in (j := 5) (by decide) hi hL) dL_law_434 ?_
  refine lv_aload_n hx hb dL_law_435 rfl (lv_at hl 4 rfl) ?_
  refine s_addPoint K (xs (nI i + 1).toNatClampNeg) (xs (nI i + 2).toNatClampNeg) (xs (nI i + 3).toNatClampNeg) (xs (nI i + 4).toNatClampNeg) (xs (nI i + 5).toNatClampNeg)  hc hs hP hD hS hl.1 dL_law_436 (fun H locs hP hD hS => ?_)
  refine lv_istore (lv' := [(5, .int (ofL T (xs (nI i + 1).toNatClampNeg) (fun s => lr_addPoint s (xs (nI i + 2).toNatClampNeg) (xs (nI i + 3).toNatClampNeg) (xs (nI i + 4).toNatClampNeg) (xs (nI i + 5).toNatClampNeg)) 1)), (4, .int (nI i)), (0, .ref b), (1, .ref adB), (2, .ref (yq_adM am)), (3, .ref adU)]) hx hb dL_law_439 hl (by decide) rfl (fun ls hl => ?_)
  refine lv_aload_n hx hb dL_law_441 rfl (lv_at hl 4 rfl) ?_
  refine lv_aload_n hx hb dL_law_442 rfl (lv_at hl 2 rfl) ?_
  refine lv_iload hx hb dL_law_443 (lv_at hl 1 rfl) ?_
  refine lv_iconst (v := 1) hx hb dL_law_445 (by decide) ?_
  refine lv_iadd hx hb dL_law_446 ?_
  refine va_sld hx hb hX hbl hbA hS (lw_in (j := 1) (by decide) hi hL) dL_law_447 ?_
  refine lv_aload_n hx hb dL_law_448 rfl (lv_at hl 2 rfl) ?_
  refine lv_iload hx hb dL_law_449 (lv_at hl 1 rfl) ?_
  refine lv_iconst (v := 2) hx hb dL_law_451 (by decide) ?_
  refine lv_iadd hx hb dL_law_452 ?_
  refine va_sld hx hb hX hbl hbA hS (lw_in (j := 2) (by decide) hi hL) dL_law_453 ?_
  refine lv_aload_n hx hb dL_law_454 rfl (lv_at hl 2 rfl) ?_
  refine lv_iload hx hb dL_law_455 (lv_at hl 1 rfl) ?_
  refine lv_iconst (v := 3) hx hb dL_law_457 (by decide) ?_
  refine lv_iadd hx hb dL_law_458 ?_
  refine va_sld hx hb hX hbl hbA hS (lw_in (j := 3) (by decide) hi hL) dL_law_459 ?_
  refine lv_aload_n hx hb dL_law_460 rfl (lv_at hl 2 rfl) ?_
  refine lv_iload hx hb dL_law_461 (lv_at hl 1 rfl) ?_
  refine lv_iconst (v := 4) hx hb dL_law_463 (by decide) ?_
  refine lv_iadd hx hb dL_law_464 ?_
  refine va_sld hx hb hX hbl hbA hS (lw_in (j := 4) (by decide) hi hL) dL_law_465 ?_
  refine lv_aload_n hx hb dL_law_466 rfl (lv_at hl 2 rfl) ?_
  refine lv_iload hx hb dL_law_467 (lv_at hl 1 rfl) ?_
  refine lv_iconst (v := 5) hx hb dL_law_469 (by decide) ?_
  refine lv_iadd hx hb dL_law_470 ?_
  refine va_sld hx hb hX hbl hbA hS (lw_in (j := 5) (by decide) hi hL) dL_law_471 ?_
  have hp : (wG cI cJ cO adU (ofL T (xs (nI i + 1).toNatClampNeg) (fun s => lo_addPoint s uo (xs (nI i + 2).toNatClampNeg) (xs (nI i + 3).toNatClampNeg) (xs (nI i + 4).toNatClampNeg) (xs (nI i + 5).toNatClampNeg)) uo) adB adA lf bs a (onL T (xs (nI i + 1).toNatClampNeg) (fun s => lu_addPoint s (xs (nI i + 2).toNatClampNeg) (xs (nI i + 3).toNatClampNeg) (xs (nI i + 4).toNatClampNeg) (xs (nI i + 5).toNatClampNeg))) (wM cI cJ cZ am M)).Perm (([zX5 adB adA bs, zAL cO adA 3 lf, zAJ cJ adU 1 (ofL T (xs (nI i + 1).toNatClampNeg) (fun s => lo_addPoint s uo (xs (nI i + 2).toNatClampNeg) (xs (nI i + 3).toNatClampNeg) (xs (nI i + 4).toNatClampNeg) (xs (nI i + 5).toNatClampNeg)) uo)] ++ (wL cI cJ a.1 (onL T (xs (nI i + 1).toNatClampNeg) (fun s => lu_addPoint s (xs (nI i + 2).toNatClampNeg) (xs (nI i + 3).toNatClampNeg) (xs (nI i + 4).toNatClampNeg) (xs (nI i + 5).toNatClampNeg))).1 ++ (wL cI cJ a.2.1 (onL T (xs (nI i + 1).toNatClampNeg) (fun s => lu_addPoint s (xs (nI i + 2).toNatClampNeg) (xs (nI i + 3).toNatClampNeg) (xs (nI i + 4).toNatClampNeg) (xs (nI i + 5).toNatClampNeg))).2.1 ++ wL cI cJ a.2.2 (onL T (xs (nI i + 1).toNatClampNeg) (fun s => lu_addPoint s (xs (nI i + 2).toNatClampNeg) (xs (nI i + 3).toNatClampNeg) (xs (nI i + 4).toNatClampNeg) (xs (nI i + 5).toNatClampNeg))).2.2))) ++ (wM cI cJ cZ am M)) := pe_m _ _ _ _ _
  refine lw_Ri2 (w1 := (wG cI cJ cO adU (ofL T (xs (nI i + 1).toNatClampNeg) (fun s => lo_addPoint s uo (xs (nI i + 2).toNatClampNeg) (xs (nI i + 3).toNatClampNeg) (xs (nI i + 4).toNatClampNeg) (xs (nI i + 5).toNatClampNeg)) uo) adB adA lf bs a (onL T (xs (nI i + 1).toNatClampNeg) (fun s => lu_addPoint s (xs (nI i + 2).toNatClampNeg) (xs (nI i + 3).toNatClampNeg) (xs (nI i + 4).toNatClampNeg) (xs (nI i + 5).toNatClampNeg))) (wM cI cJ cZ am (um_addPoint M (xs (nI i + 1).toNatClampNeg) (xs (nI i + 2).toNatClampNeg) (xs (nI i + 3).toNatClampNeg) (xs (nI i + 4).toNatClampNeg) (xs (nI i + 5).toNatClampNeg))))) (wl := ([zX5 adB adA bs, zAL cO adA 3 lf, zAJ cJ adU 1 (ofL T (xs (nI i + 1).toNatClampNeg) (fun s => lo_addPoint s uo (xs (nI i + 2).toNatClampNeg) (xs (nI i + 3).toNatClampNeg) (xs (nI i + 4).toNatClampNeg) (xs (nI i + 5).toNatClampNeg)) uo)] ++ (wL cI cJ a.1 (onL T (xs (nI i + 1).toNatClampNeg) (fun s => lu_addPoint s (xs (nI i + 2).toNatClampNeg) (xs (nI i + 3).toNatClampNeg) (xs (nI i + 4).toNatClampNeg) (xs (nI i + 5).toNatClampNeg))).1 ++ (wL cI cJ a.2.1 (onL T (xs (nI i + 1).toNatClampNeg) (fun s => lu_addPoint s (xs (nI i + 2).toNatClampNeg) (xs (nI i + 3).toNatClampNeg) (xs (nI i + 4).toNatClampNeg) (xs (nI i + 5).toNatClampNeg))).2.1 ++ wL cI cJ a.2.2 (onL T (xs (nI i + 1).toNatClampNeg) (fun s => lu_addPoint s (xs (nI i + 2).toNatClampNeg) (xs (nI i + 3).toNatClampNeg) (xs (nI i + 4).toNatClampNeg) (xs (nI i + 5).toNatClampNeg))).2.2)))) (wr := (wM cI cJ cZ am M)) (wq := (wM cI cJ cZ am (um_addPoint M (xs (nI i + 1).toNatClampNeg) (xs (nI i + 2).toNatClampNeg) (xs (nI i + 3).toNatClampNeg) (xs (nI i + 4).toNatClampNeg) (xs (nI i + 5).toNatClampNeg)))) (rv := (rm_addPoint M (xs (nI i + 1).toNatClampNeg) (xs (nI i + 2).toNatClampNeg) (xs (nI i + 3).toNatClampNeg) (xs (nI i + 4).toNatClampNeg) (xs (nI i + 5).toNatClampNeg))) (rest := []) (va_runV (As := [.int (xs (nI i + 1).toNatClampNeg), .int (xs (nI i + 2).toNatClampNeg), .int (xs (nI i + 3).toNatClampNeg), .int (xs (nI i + 4).toNatClampNeg), .int (xs (nI i + 5).toNatClampNeg)]) (rest := []) ⟨hx, hb, hml, hown, hts⟩ (d_X6_addPoint l dC dI cI cJ cZ cO am M (xs (nI i + 1).toNatClampNeg) (xs (nI i + 2).toNatClampNeg) (xs (nI i + 3).toNatClampNeg) (xs (nI i + 4).toNatClampNeg) (xs (nI i + 5).toNatClampNeg) _ (rel_hpt hR)) (cwV 5 hts (gd_V wd_4_227 wd_4_228 wd_4_229 wd_1_7 wd_4_230) rfl rfl rfl (by decide +kernel) ⟨Nat.le_of_ble_eq_true rfl, Nat.le_of_ble_eq_true rfl⟩) (lw_Rq (ci := 6) (q := (RX6, TX6, 42)) (q0 := 0) rfl rfl gU_c (fun _ _ _ => trivial) hK hp hP hD) rfl rfl hl.1 rfl (lv_room (Nat.le_of_ble_eq_true rfl)) dL_law_472 ⟨by show cells + 8 + 0 ≤ 650651; omega, by show slots + 64 + 0 ≤ 7144151; omega⟩) hp (pe_m _ _ _ _ _) hP hD hS hA (fun H locs hP hD hS => ?_)
  refine lv_istore (lv' := [(6, .int (rm_addPoint M (xs (nI i + 1).toNatClampNeg) (xs (nI i + 2).toNatClampNeg) (xs (nI i + 3).toNatClampNeg) (xs (nI i + 4).toNatClampNeg) (xs (nI i + 5).toNatClampNeg))), (5, .int (ofL T (xs (nI i + 1).toNatClampNeg) (fun s => lr_addPoint s (xs (nI i + 2).toNatClampNeg) (xs (nI i + 3).toNatClampNeg) (xs (nI i + 4).toNatClampNeg) (xs (nI i + 5).toNatClampNeg)) 1)), (4, .int (nI i)), (0, .ref b), (1, .ref adB), (2, .ref (yq_adM am)), (3, .ref adU)]) hx hb dL_law_475 hl (by decide) rfl (fun ls hl => ?_)
  refine lv_aload_n hx hb dL_law_477 rfl (lv_at hl 5 rfl) ?_
  have hp : (wG cI cJ cO adU (ofL T (xs (nI i + 1).toNatClampNeg) (fun s => lo_addPoint s uo (xs (nI i + 2).toNatClampNeg) (xs (nI i + 3).toNatClampNeg) (xs (nI i + 4).toNatClampNeg) (xs (nI i + 5).toNatClampNeg)) uo) adB adA lf bs a (onL T (xs (nI i + 1).toNatClampNeg) (fun s => lu_addPoint s (xs (nI i + 2).toNatClampNeg) (xs (nI i + 3).toNatClampNeg) (xs (nI i + 4).toNatClampNeg) (xs (nI i + 5).toNatClampNeg))) (wM cI cJ cZ am (um_addPoint M (xs (nI i + 1).toNatClampNeg) (xs (nI i + 2).toNatClampNeg) (xs (nI i + 3).toNatClampNeg) (xs (nI i + 4).toNatClampNeg) (xs (nI i + 5).toNatClampNeg)))).Perm (([zX5 adB adA bs, zAL cO adA 3 lf, zAJ cJ adU 1 (ofL T (xs (nI i + 1).toNatClampNeg) (fun s => lo_addPoint s uo (xs (nI i + 2).toNatClampNeg) (xs (nI i + 3).toNatClampNeg) (xs (nI i + 4).toNatClampNeg) (xs (nI i + 5).toNatClampNeg)) uo)] ++ (wL cI cJ a.1 (onL T (xs (nI i + 1).toNatClampNeg) (fun s => lu_addPoint s (xs (nI i + 2).toNatClampNeg) (xs (nI i + 3).toNatClampNeg) (xs (nI i + 4).toNatClampNeg) (xs (nI i + 5).toNatClampNeg))).1 ++ (wL cI cJ a.2.1 (onL T (xs (nI i + 1).toNatClampNeg) (fun s => lu_addPoint s (xs (nI i + 2).toNatClampNeg) (xs (nI i + 3).toNatClampNeg) (xs (nI i + 4).toNatClampNeg) (xs (nI i + 5).toNatClampNeg))).2.1 ++ wL cI cJ a.2.2 (onL T (xs (nI i + 1).toNatClampNeg) (fun s => lu_addPoint s (xs (nI i + 2).toNatClampNeg) (xs (nI i + 3).toNatClampNeg) (xs (nI i + 4).toNatClampNeg) (xs (nI i + 5).toNatClampNeg))).2.2))) ++ (wM cI cJ cZ am (um_addPoint M (xs (nI i + 1).toNatClampNeg) (xs (nI i + 2).toNatClampNeg) (xs (nI i + 3).toNatClampNeg) (xs (nI i + 4).toNatClampNeg) (xs (nI i + 5).toNatClampNeg)))) := pe_m _ _ _ _ _
  refine lw_Ri2 (w1 := (wG cI cJ cO adU (ofL T (xs (nI i + 1).toNatClampNeg) (fun s => lo_addPoint s uo (xs (nI i + 2).toNatClampNeg) (xs (nI i + 3).toNatClampNeg) (xs (nI i + 4).toNatClampNeg) (xs (nI i + 5).toNatClampNeg)) uo) adB adA lf bs a (onL T (xs (nI i + 1).toNatClampNeg) (fun s => lu_addPoint s (xs (nI i + 2).toNatClampNeg) (xs (nI i + 3).toNatClampNeg) (xs (nI i + 4).toNatClampNeg) (xs (nI i + 5).toNatClampNeg))) (wM cI cJ cZ am (um_addPoint M (xs (nI i + 1).toNatClampNeg) (xs (nI i + 2).toNatClampNeg) (xs (nI i + 3).toNatClampNeg) (xs (nI i + 4).toNatClampNeg) (xs (nI i + 5).toNatClampNeg))))) (wl := ([zX5 adB adA bs, zAL cO adA 3 lf, zAJ cJ adU 1 (ofL T (xs (nI i + 1).toNatClampNeg) (fun s => lo_addPoint s uo (xs (nI i + 2).toNatClampNeg) (xs (nI i + 3).toNatClampNeg) (xs (nI i + 4).toNatClampNeg) (xs (nI i + 5).toNatClampNeg)) uo)] ++ (wL cI cJ a.1 (onL T (xs (nI i + 1).toNatClampNeg) (fun s => lu_addPoint s (xs (nI i + 2).toNatClampNeg) (xs (nI i + 3).toNatClampNeg) (xs (nI i + 4).toNatClampNeg) (xs (nI i + 5).toNatClampNeg))).1 ++ (wL cI cJ a.2.1 (onL T (xs (nI i + 1).toNatClampNeg) (fun s => lu_addPoint s (xs (nI i + 2).toNatClampNeg) (xs (nI i + 3).toNatClampNeg) (xs (nI i + 4).toNatClampNeg) (xs (nI i + 5).toNatClampNeg))).2.1 ++ wL cI cJ a.2.2 (onL T (xs (nI i + 1).toNatClampNeg) (fun s => lu_addPoint s (xs (nI i + 2).toNatClampNeg) (xs (nI i + 3).toNatClampNeg) (xs (nI i + 4).toNatClampNeg) (xs (nI i + 5).toNatClampNeg))).2.2)))) (wr := (wM cI cJ cZ am (um_addPoint M (xs (nI i + 1).toNatClampNeg) (xs (nI i + 2).toNatClampNeg) (xs (nI i + 3).toNatClampNeg) (xs (nI i + 4).toNatClampNeg) (xs (nI i + 5).toNatClampNeg)))) (wq := (wM cI cJ cZ am (um_thrown (um_addPoint M (xs (nI i + 1).toNatClampNeg) (xs (nI i + 2).toNatClampNeg) (xs (nI i + 3).toNatClampNeg) (xs (nI i + 4).toNatClampNeg) (xs (nI i + 5).toNatClampNeg))))) (rv := (rm_thrown (um_addPoint M (xs (nI i + 1).toNatClampNeg) (xs (nI i + 2).toNatClampNeg) (xs (nI i + 3).toNatClampNeg) (xs (nI i + 4).toNatClampNeg) (xs (nI i + 5).toNatClampNeg)))) (rest := []) (va_runV (As := []) (rest := []) ⟨hx, hb, hml, hown, hts⟩ (d_X6_thrown l dC dI cI cJ cZ cO am (um_addPoint M (xs (nI i + 1).toNatClampNeg) (xs (nI i + 2).toNatClampNeg) (xs (nI i + 3).toNatClampNeg) (xs (nI i + 4).toNatClampNeg) (xs (nI i + 5).toNatClampNeg)) _) (cwV 0 hts (gd_V wd_4_184 wd_4_185 wd_4_186 wd_1_7 wd_4_187) rfl rfl rfl (by decide +kernel) ⟨Nat.le_of_ble_eq_true rfl, Nat.le_of_ble_eq_true rfl⟩) (lw_Rq (ci := 6) (q := (RX6, TX6, 42)) (q0 := 0) rfl rfl gU_c (fun _ _ _ => trivial) hK hp hP hD) rfl rfl hl.1 rfl (lv_room (Nat.le_of_ble_eq_true rfl)) dL_law_478 ⟨by show cells + 8 + 0 ≤ 650651; omega, by show slots + 64 + 0 ≤ 7144151; omega⟩) hp (pe_m _ _ _ _ _) hP hD hS hA (fun H locs hP hD hS => ?_)
  refine lv_iload hx hb dL_law_481 (lv_at hl 1 rfl) ?_
  refine lv_icmp_eq (tgt := 488) hx hb dL_law_483 (by decide) (fun h9 => ?_) (fun h9 => absurd r1 h9)
  refine lv_iload hx hb dL_law_488 (lv_at hl 1 rfl) ?_
  refine lv_if_ne (tgt := 505) hx hb dL_law_490 (by decide) (fun h8 => ?_) (fun h8 => ?_)
  · refine lv_goto (tgt := 1881) hx hb dL_law_505 (by decide) ?_
    exact kk _ _ _ _ H locs ls r3 hP hD hS (lv_sub hl [2, 3, 4, 5, 6] rfl)
  · skip
    refine lv_aload_n hx hb dL_law_493 rfl (lv_at hl 6 rfl) ?_
    refine lv_iconst (v := 0) hx hb dL_law_494 (by decide) ?_
    refine va_lald hx hb hK hP 2 1 rfl rfl (i := (0 : Int32)) (ix_d (by decide)) dL_law_495 ?_
    refine lv_iload hx hb dL_law_496 (lv_at hl 0 rfl) ?_
    refine lv_i2l hx hb dL_law_498 rfl ?_
    refine hh_ceq (tgt := 505) hx hb dL_law_499 dL_law_500 (by decide) (fun h7 => ?_) (fun h7 => absurd (r2 h8) h7)
    refine lv_goto (tgt := 1881) hx hb dL_law_505 (by decide) ?_
    exact kk _ _ _ _ H locs ls r3 hP hD hS (lv_sub hl [2, 3, 4, 5, 6] rfl)
set_option maxHeartbeats 4000000 in
theorem k_setLimits (K : KX p l s m meth c b L xs (dC, dI) cI cJ cZ cO lf a) (hR : Rel T bs M) (hi : i + 6 ≤ L) (hc : cells + 8 ≤ 650651) (hs : slots + 64 ≤ 7144151) (hP : va_P (dC, dI) vwCl (wG cI cJ cO adU uo adB adA lf bs a T (wM cI cJ cZ am M)) H) (hD : va_D (fun q => s.heap.size ≤ q) (wG cI cJ cO adU uo adB adA lf bs a T (wM cI cJ cZ am M))) (hS : va_S (fun q => s.heap.size ≤ q) s.heap H locs) (hl : lv_has ls 8 [(4, .int (nI i)), (0, .ref b), (1, .ref adB), (2, .ref (yq_adM am)), (3, .ref adU)])
    (kk : ∀ (uo : Nat → Int64) (bs : Int32) (T : LT × LT × LT) (M : MT) (H : Heap) (locs : List Loc) (ls : Array Slot), Rel T bs M → va_P (dC, dI) vwCl (wG cI cJ cO adU uo adB adA lf bs a T (wM cI cJ cZ am M)) H → va_D (fun q => s.heap.size ≤ q) (wG cI cJ cO adU uo adB adA lf bs a T (wM cI cJ cZ am M)) → va_S (fun q => s.heap.size ≤ q) s.heap H locs → lv_has ls 8 [(4, .int (nI i)), (0, .ref b), (1, .ref adB), (2, .ref (yq_adM am)), (3, .ref adU)] → W p l e room_1 s m #[Value.ref b] below meth c H locs (cells + 8) (slots + 64) Q (F0 m 1881 ls [])) : W p l e room_1 s m #[Value.ref b] below meth c H locs cells slots Q (F0 m 508 ls []) := by
  obtain ⟨hx, hb, hr, hml, hown, hts, hX, hbl, hlocks, hG, hfl, hK, hf0, hf1, hf2, hL⟩ := id K
  have hA : ∀ q : Nat, s.heap.size ≤ q → (fun q => s.heap.size ≤ q) q := fun _ h => h
  have hbA : ¬ (fun q => s.heap.size ≤ q) b := Nat.not_le.mpr hbl
  obtain ⟨r1, r3⟩ := rel_setLimits hR (xs (nI i + 1).toNatClampNeg) (xs (nI i + 2).toNatClampNeg) (xs (nI i + 3).toNatClampNeg)
  refine lv_aload_n hx hb dL_law_508 rfl (lv_at hl 2 rfl) ?_
  refine lv_aload_n hx hb dL_law_509 rfl (lv_at hl 1 rfl) ?_
  refine lv_iload hx hb dL_law_510 (lv_at hl 0 rfl) ?_
  refine lv_iconst (v := 1) hx hb dL_law_512 (by decide) ?_
  refine lv_iadd hx hb dL_law_513 ?_
  refine va_sld hx hb hX hbl hbA hS (lw_in (j := 1) (by decide) hi hL) dL_law_514 ?_
  refine lv_aload_n hx hb dL_law_515 rfl (lv_at hl 1 rfl) ?_
  refine lv_iload hx hb dL_law_516 (lv_at hl 0 rfl) ?_
  refine lv_iconst (v := 2) hx hb dL_law_518 (by decide) ?_
  refine lv_iadd hx hb dL_law_519 ?_
  refine va_sld hx hb hX hbl hbA hS (lw_in (j := 2) (by decide) hi hL) dL_law_520 ?_
  refine lv_aload_n hx hb dL_law_521 rfl (lv_at hl 1 rfl) ?_
  refine lv_iload hx hb dL_law_522 (lv_at hl 0 rfl) ?_
  refine lv_iconst (v := 3) hx hb dL_law_524 (by decide) ?_
  refine lv_iadd hx hb dL_law_525 ?_
  refine va_sld hx hb hX hbl hbA hS (lw_in (j := 3) (by decide) hi hL) dL_law_526 ?_
  refine s_setLimits K (xs (nI i + 1).toNatClampNeg) (xs (nI i + 2).toNatClampNeg) (xs (nI i + 3).toNatClampNeg)  hc hs hP hD hS hl.1 dL_law_527 (fun H locs hP hD hS => ?_)
  refine lv_istore (lv' := [(5, .int (ofL T (xs (nI i + 1).toNatClampNeg) (fun s => lr_setLimits s (xs (nI i + 2).toNatClampNeg) (xs (nI i + 3).toNatClampNeg)) 1)), (4, .int (nI i)), (0, .ref b), (1, .ref adB), (2, .ref (yq_adM am)), (3, .ref adU)]) hx hb dL_law_530 hl (by decide) rfl (fun ls hl => ?_)
  refine lv_aload_n hx hb dL_law_532 rfl (lv_at hl 4 rfl) ?_
  refine lv_aload_n hx hb dL_law_533 rfl (lv_at hl 2 rfl) ?_
  refine lv_iload hx hb dL_law_534 (lv_at hl 1 rfl) ?_
  refine lv_iconst (v := 1) hx hb dL_law_536 (by decide) ?_
  refine lv_iadd hx hb dL_law_537 ?_
  refine va_sld hx hb hX hbl hbA hS (lw_in (j := 1) (by decide) hi hL) dL_law_538 ?_
  refine lv_aload_n hx hb dL_law_539 rfl (lv_at hl 2 rfl) ?_
  refine lv_iload hx hb dL_law_540 (lv_at hl 1 rfl) ?_
  refine lv_iconst (v := 2) hx hb dL_law_542 (by decide) ?_
  refine lv_iadd hx hb dL_law_543 ?_
  refine va_sld hx hb hX hbl hbA hS (lw_in (j := 2) (by decide) hi hL) dL_law_544 ?_
  refine lv_aload_n hx hb dL_law_545 rfl (lv_at hl 2 rfl) ?_
  refine lv_iload hx hb dL_law_546 (lv_at hl 1 rfl) ?_
  refine lv_iconst (v := 3) hx hb dL_law_548 (by decide) ?_
  refine lv_iadd hx hb dL_law_549 ?_
  refine va_sld hx hb hX hbl hbA hS (lw_in (j := 3) (by decide) hi hL) dL_law_550 ?_
  have hp : (wG cI cJ cO adU (ofL T (xs (nI i + 1).toNatClampNeg) (fun s => lo_setLimits s uo (xs (nI i + 2).toNatClampNeg) (xs (nI i + 3).toNatClampNeg)) uo) adB adA lf bs a (onL T (xs (nI i + 1).toNatClampNeg) (fun s => lu_setLimits s (xs (nI i + 2).toNatClampNeg) (xs (nI i + 3).toNatClampNeg))) (wM cI cJ cZ am M)).Perm (([zX5 adB adA bs, zAL cO adA 3 lf, zAJ cJ adU 1 (ofL T (xs (nI i + 1).toNatClampNeg) (fun s => lo_setLimits s uo (xs (nI i + 2).toNatClampNeg) (xs (nI i + 3).toNatClampNeg)) uo)] ++ (wL cI cJ a.1 (onL T (xs (nI i + 1).toNatClampNeg) (fun s => lu_setLimits s (xs (nI i + 2).toNatClampNeg) (xs (nI i + 3).toNatClampNeg))).1 ++ (wL cI cJ a.2.1 (onL T (xs (nI i + 1).toNatClampNeg) (fun s => lu_setLimits s (xs (nI i + 2).toNatClampNeg) (xs (nI i + 3).toNatClampNeg))).2.1 ++ wL cI cJ a.2.2 (onL T (xs (nI i + 1).toNatClampNeg) (fun s => lu_setLimits s (xs (nI i + 2).toNatClampNeg) (xs (nI i + 3).toNatClampNeg))).2.2))) ++ (wM cI cJ cZ am M)) := pe_m _ _ _ _ _
  refine lw_Rv2 (w1 := (wG cI cJ cO adU (ofL T (xs (nI i + 1).toNatClampNeg) (fun s => lo_setLimits s uo (xs (nI i + 2).toNatClampNeg) (xs (nI i + 3).toNatClampNeg)) uo) adB adA lf bs a (onL T (xs (nI i + 1).toNatClampNeg) (fun s => lu_setLimits s (xs (nI i + 2).toNatClampNeg) (xs (nI i + 3).toNatClampNeg))) (wM cI cJ cZ am (um_setLimits M (xs (nI i + 1).toNatClampNeg) (xs (nI i + 2).toNatClampNeg) (xs (nI i + 3).toNatClampNeg))))) (wl := ([zX5 adB adA bs, zAL cO adA 3 lf, zAJ cJ adU 1 (ofL T (xs (nI i + 1).toNatClampNeg) (fun s => lo_setLimits s uo (xs (nI i + 2).toNatClampNeg) (xs (nI i + 3).toNatClampNeg)) uo)] ++ (wL cI cJ a.1 (onL T (xs (nI i + 1).toNatClampNeg) (fun s => lu_setLimits s (xs (nI i + 2).toNatClampNeg) (xs (nI i + 3).toNatClampNeg))).1 ++ (wL cI cJ a.2.1 (onL T (xs (nI i + 1).toNatClampNeg) (fun s => lu_setLimits s (xs (nI i + 2).toNatClampNeg) (xs (nI i + 3).toNatClampNeg))).2.1 ++ wL cI cJ a.2.2 (onL T (xs (nI i + 1).toNatClampNeg) (fun s => lu_setLimits s (xs (nI i + 2).toNatClampNeg) (xs (nI i + 3).toNatClampNeg))).2.2)))) (wr := (wM cI cJ cZ am M)) (wq := (wM cI cJ cZ am (um_setLimits M (xs (nI i + 1).toNatClampNeg) (xs (nI i + 2).toNatClampNeg) (xs (nI i + 3).toNatClampNeg)))) (rest := []) (va_runV (As := [.int (xs (nI i + 1).toNatClampNeg), .int (xs (nI i + 2).toNatClampNeg), .int (xs (nI i + 3).toNatClampNeg)]) (rest := []) ⟨hx, hb, hml, hown, hts⟩ (d_X6_setLimits l dC dI cI cJ cZ cO am M (xs (nI i + 1).toNatClampNeg) (xs (nI i + 2).toNatClampNeg) (xs (nI i + 3).toNatClampNeg) _ ) (cwV 3 hts (gd_V wd_4_233 wd_4_234 wd_4_235 wd_1_7 wd_4_236) rfl rfl rfl (by decide +kernel) ⟨Nat.le_of_ble_eq_true rfl, Nat.le_of_ble_eq_true rfl⟩) (lw_Rq (ci := 6) (q := (RX6, TX6, 42)) (q0 := 0) rfl rfl gU_c (fun _ _ _ => trivial) hK hp hP hD) rfl rfl hl.1 rfl (lv_room (Nat.le_of_ble_eq_true rfl)) dL_law_551 ⟨by show cells + 8 + 0 ≤ 650651; omega, by show slots + 64 + 0 ≤ 7144151; omega⟩) hp (pe_m _ _ _ _ _) hP hD hS hA (fun H locs hP hD hS => ?_)
  refine lv_aload_n hx hb dL_law_554 rfl (lv_at hl 4 rfl) ?_
  have hp : (wG cI cJ cO adU (ofL T (xs (nI i + 1).toNatClampNeg) (fun s => lo_setLimits s uo (xs (nI i + 2).toNatClampNeg) (xs (nI i + 3).toNatClampNeg)) uo) adB adA lf bs a (onL T (xs (nI i + 1).toNatClampNeg) (fun s => lu_setLimits s (xs (nI i + 2).toNatClampNeg) (xs (nI i + 3).toNatClampNeg))) (wM cI cJ cZ am (um_setLimits M (xs (nI i + 1).toNatClampNeg) (xs (nI i + 2).toNatClampNeg) (xs (nI i + 3).toNatClampNeg)))).Perm (([zX5 adB adA bs, zAL cO adA 3 lf, zAJ cJ adU 1 (ofL T (xs (nI i + 1).toNatClampNeg) (fun s => lo_setLimits s uo (xs (nI i + 2).toNatClampNeg) (xs (nI i + 3).toNatClampNeg)) uo)] ++ (wL cI cJ a.1 (onL T (xs (nI i + 1).toNatClampNeg) (fun s => lu_setLimits s (xs (nI i + 2).toNatClampNeg) (xs (nI i + 3).toNatClampNeg))).1 ++ (wL cI cJ a.2.1 (onL T (xs (nI i + 1).toNatClampNeg) (fun s => lu_setLimits s (xs (nI i + 2).toNatClampNeg) (xs (nI i + 3).toNatClampNeg))).2.1 ++ wL cI cJ a.2.2 (onL T (xs (nI i + 1).toNatClampNeg) (fun s => lu_setLimits s (xs (nI i + 2).toNatClampNeg) (xs (nI i + 3).toNatClampNeg))).2.2))) ++ (wM cI cJ cZ am (um_setLimits M (xs (nI i + 1).toNatClampNeg) (xs (nI i + 2).toNatClampNeg) (xs (nI i + 3).toNatClampNeg)))) := pe_m _ _ _ _ _
  refine lw_Ri2 (w1 := (wG cI cJ cO adU (ofL T (xs (nI i + 1).toNatClampNeg) (fun s => lo_setLimits s uo (xs (nI i + 2).toNatClampNeg) (xs (nI i + 3).toNatClampNeg)) uo) adB adA lf bs a (onL T (xs (nI i + 1).toNatClampNeg) (fun s => lu_setLimits s (xs (nI i + 2).toNatClampNeg) (xs (nI i + 3).toNatClampNeg))) (wM cI cJ cZ am (um_setLimits M (xs (nI i + 1).toNatClampNeg) (xs (nI i + 2).toNatClampNeg) (xs (nI i + 3).toNatClampNeg))))) (wl := ([zX5 adB adA bs, zAL cO adA 3 lf, zAJ cJ adU 1 (ofL T (xs (nI i + 1).toNatClampNeg) (fun s => lo_setLimits s uo (xs (nI i + 2).toNatClampNeg) (xs (nI i + 3).toNatClampNeg)) uo)] ++ (wL cI cJ a.1 (onL T (xs (nI i + 1).toNatClampNeg) (fun s => lu_setLimits s (xs (nI i + 2).toNatClampNeg) (xs (nI i + 3).toNatClampNeg))).1 ++ (wL cI cJ a.2.1 (onL T (xs (nI i + 1).toNatClampNeg) (fun s => lu_setLimits s (xs (nI i + 2).toNatClampNeg) (xs (nI i + 3).toNatClampNeg))).2.1 ++ wL cI cJ a.2.2 (onL T (xs (nI i + 1).toNatClampNeg) (fun s => lu_setLimits s (xs (nI i + 2).toNatClampNeg) (xs (nI i + 3).toNatClampNeg))).2.2)))) (wr := (wM cI cJ cZ am (um_setLimits M (xs (nI i + 1).toNatClampNeg) (xs (nI i + 2).toNatClampNeg) (xs (nI i + 3).toNatClampNeg)))) (wq := (wM cI cJ cZ am (um_thrown (um_setLimits M (xs (nI i + 1).toNatClampNeg) (xs (nI i + 2).toNatClampNeg) (xs (nI i + 3).toNatClampNeg))))) (rv := (rm_thrown (um_setLimits M (xs (nI i + 1).toNatClampNeg) (xs (nI i + 2).toNatClampNeg) (xs (nI i + 3).toNatClampNeg)))) (rest := []) (va_runV (As := []) (rest := []) ⟨hx, hb, hml, hown, hts⟩ (d_X6_thrown l dC dI cI cJ cZ cO am (um_setLimits M (xs (nI i + 1).toNatClampNeg) (xs (nI i + 2).toNatClampNeg) (xs (nI i + 3).toNatClampNeg)) _) (cwV 0 hts (gd_V wd_4_184 wd_4_185 wd_4_186 wd_1_7 wd_4_187) rfl rfl rfl (by decide +kernel) ⟨Nat.le_of_ble_eq_true rfl, Nat.le_of_ble_eq_true rfl⟩) (lw_Rq (ci := 6) (q := (RX6, TX6, 42)) (q0 := 0) rfl rfl gU_c (fun _ _ _ => trivial) hK hp hP hD) rfl rfl hl.1 rfl (lv_room (Nat.le_of_ble_eq_true rfl)) dL_law_555 ⟨by show cells + 8 + 0 ≤ 650651; omega, by show slots + 64 + 0 ≤ 7144151; omega⟩) hp (pe_m _ _ _ _ _) hP hD hS hA (fun H locs hP hD hS => ?_)
  refine lv_iload hx hb dL_law_558 (lv_at hl 0 rfl) ?_
  refine lv_icmp_eq (tgt := 565) hx hb dL_law_560 (by decide) (fun h9 => ?_) (fun h9 => absurd r1 h9)
  refine lv_goto (tgt := 1881) hx hb dL_law_565 (by decide) ?_
  exact kk _ _ _ _ H locs ls r3 hP hD hS (lv_sub hl [1, 2, 3, 4, 5] rfl)
set_option maxHeartbeats 4000000 in
theorem k_setGuard (K : KX p l s m meth c b L xs (dC, dI) cI cJ cZ cO lf a) (hR : Rel T bs M) (hi : i + 6 ≤ L) (hc : cells + 8 ≤ 650651) (hs : slots + 64 ≤ 7144151) (hP : va_P (dC, dI) vwCl (wG cI cJ cO adU uo adB adA lf bs a T (wM cI cJ cZ am M)) H) (hD : va_D (fun q => s.heap.size ≤ q) (wG cI cJ cO adU uo adB adA lf bs a T (wM cI cJ cZ am M))) (hS : va_S (fun q => s.heap.size ≤ q) s.heap H locs) (hl : lv_has ls 8 [(4, .int (nI i)), (0, .ref b), (1, .ref adB), (2, .ref (yq_adM am)), (3, .ref adU)])
    (kk : ∀ (uo : Nat → Int64) (bs : Int32) (T : LT × LT × LT) (M : MT) (H : Heap) (locs : List Loc) (ls : Array Slot), Rel T bs M → va_P (dC, dI) vwCl (wG cI cJ cO adU uo adB adA lf bs a T (wM cI cJ cZ am M)) H → va_D (fun q => s.heap.size ≤ q) (wG cI cJ cO adU uo adB adA lf bs a T (wM cI cJ cZ am M)) → va_S (fun q => s.heap.size ≤ q) s.heap H locs → lv_has ls 8 [(4, .int (nI i)), (0, .ref b), (1, .ref adB), (2, .ref (yq_adM am)), (3, .ref adU)] → W p l e room_1 s m #[Value.ref b] below meth c H locs (cells + 8) (slots + 64) Q (F0 m 1881 ls [])) : W p l e room_1 s m #[Value.ref b] below meth c H locs cells slots Q (F0 m 568 ls []) := by
  obtain ⟨hx, hb, hr, hml, hown, hts, hX, hbl, hlocks, hG, hfl, hK, hf0, hf1, hf2, hL⟩ := id K
  have hA : ∀ q : Nat, s.heap.size ≤ q → (fun q => s.heap.size ≤ q) q := fun _ h => h
  have hbA : ¬ (fun q => s.heap.size ≤ q) b := Nat.not_le.mpr hbl
  obtain ⟨r1, r2, r3⟩ := rel_setGuard hR (xs (nI i + 1).toNatClampNeg) (xs (nI i + 2).toNatClampNeg) (xs (nI i + 3).toNatClampNeg) uo
  refine lv_aload_n hx hb dL_law_568 rfl (lv_at hl 2 rfl) ?_
  refine lv_aload_n hx hb dL_law_569 rfl (lv_at hl 1 rfl) ?_
  refine lv_iload hx hb dL_law_570 (lv_at hl 0 rfl) ?_
  refine lv_iconst (v := 1) hx hb dL_law_572 (by decide) ?_
  refine lv_iadd hx hb dL_law_573 ?_
  refine va_sld hx hb hX hbl hbA hS (lw_in (j := 1) (by decide) hi hL) dL_law_574 ?_
  refine lv_aload_n hx hb dL_law_575 rfl (lv_at hl 1 rfl) ?_
  refine lv_iload hx hb dL_law_576 (lv_at hl 0 rfl) ?_
  refine lv_iconst (v := 2) hx hb dL_law_578 (by decide) ?_
  refine lv_iadd hx hb dL_law_579 ?_
  refine va_sld hx hb hX hbl hbA hS (lw_in (j := 2) (by decide) hi hL) dL_law_580 ?_
  refine lv_aload_n hx hb dL_law_581 rfl (lv_at hl 1 rfl) ?_
  refine lv_iload hx hb dL_law_582 (lv_at hl 0 rfl) ?_
  refine lv_iconst (v := 3) hx hb dL_law_584 (by decide) ?_
  refine lv_iadd hx hb dL_law_585 ?_
  refine va_sld hx hb hX hbl hbA hS (lw_in (j := 3) (by decide) hi hL) dL_law_586 ?_
  refine lv_aload_n hx hb dL_law_587 rfl (lv_at hl 4 rfl) ?_
  refine s_setGuard K (xs (nI i + 1).toNatClampNeg) (xs (nI i + 2).toNatClampNeg) (xs (nI i + 3).toNatClampNeg)  hc hs hP hD hS hl.1 dL_law_588 (fun H locs hP hD hS => ?_)
  refine lv_istore (lv' := [(5, .int (ofL T (xs (nI i + 1).toNatClampNeg) (fun s => lr_setGuard s (xs (nI i + 2).toNatClampNeg) (xs (nI i + 3).toNatClampNeg)) 1)), (4, .int (nI i)), (0, .ref b), (1, .ref adB), (2, .ref (yq_adM am)), (3, .ref adU)]) hx hb dL_law_591 hl (by decide) rfl (fun ls hl => ?_)
  refine lv_aload_n hx hb dL_law_593 rfl (lv_at hl 4 rfl) ?_
  refine lv_aload_n hx hb dL_law_594 rfl (lv_at hl 2 rfl) ?_
  refine lv_iload hx hb dL_law_595 (lv_at hl 1 rfl) ?_
  refine lv_iconst (v := 1) hx hb dL_law_597 (by decide) ?_
  refine lv_iadd hx hb dL_law_598 ?_
  refine va_sld hx hb hX hbl hbA hS (lw_in (j := 1) (by decide) hi hL) dL_law_599 ?_
  refine lv_aload_n hx hb dL_law_600 rfl (lv_at hl 2 rfl) ?_
  refine lv_iload hx hb dL_law_601 (lv_at hl 1 rfl) ?_
  refine lv_iconst (v := 2) hx hb dL_law_603 (by decide) ?_
  refine lv_iadd hx hb dL_law_604 ?_
  refine va_sld hx hb hX hbl hbA hS (lw_in (j := 2) (by decide) hi hL) dL_law_605 ?_
  refine lv_aload_n hx hb dL_law_606 rfl (lv_at hl 2 rfl) ?_
  refine lv_iload hx hb dL_law_607 (lv_at hl 1 rfl) ?_
  refine lv_iconst (v := 3) hx hb dL_law_609 (by decide) ?_
  refine lv_iadd hx hb dL_law_610 ?_
  refine va_sld hx hb hX hbl hbA hS (lw_in (j := 3) (by decide) hi hL) dL_law_611 ?_
  have hp : (wG cI cJ cO adU (ofL T (xs (nI i + 1).toNatClampNeg) (fun s => lo_setGuard s uo (xs (nI i + 2).toNatClampNeg) (xs (nI i + 3).toNatClampNeg)) uo) adB adA lf bs a (onL T (xs (nI i + 1).toNatClampNeg) (fun s => lu_setGuard s (xs (nI i + 2).toNatClampNeg) (xs (nI i + 3).toNatClampNeg))) (wM cI cJ cZ am M)).Perm (([zX5 adB adA bs, zAL cO adA 3 lf, zAJ cJ adU 1 (ofL T (xs (nI i + 1).toNatClampNeg) (fun s => lo_setGuard s uo (xs (nI i + 2).toNatClampNeg) (xs (nI i + 3).toNatClampNeg)) uo)] ++ (wL cI cJ a.1 (onL T (xs (nI i + 1).toNatClampNeg) (fun s => lu_setGuard s (xs (nI i + 2).toNatClampNeg) (xs (nI i + 3).toNatClampNeg))).1 ++ (wL cI cJ a.2.1 (onL T (xs (nI i + 1).toNatClampNeg) (fun s => lu_setGuard s (xs (nI i + 2).toNatClampNeg) (xs (nI i + 3).toNatClampNeg))).2.1 ++ wL cI cJ a.2.2 (onL T (xs (nI i + 1).toNatClampNeg) (fun s => lu_setGuard s (xs (nI i + 2).toNatClampNeg) (xs (nI i + 3).toNatClampNeg))).2.2))) ++ (wM cI cJ cZ am M)) := pe_m _ _ _ _ _
  refine lw_Ri2 (w1 := (wG cI cJ cO adU (ofL T (xs (nI i + 1).toNatClampNeg) (fun s => lo_setGuard s uo (xs (nI i + 2).toNatClampNeg) (xs (nI i + 3).toNatClampNeg)) uo) adB adA lf bs a (onL T (xs (nI i + 1).toNatClampNeg) (fun s => lu_setGuard s (xs (nI i + 2).toNatClampNeg) (xs (nI i + 3).toNatClampNeg))) (wM cI cJ cZ am (um_setGuard M (xs (nI i + 1).toNatClampNeg) (xs (nI i + 2).toNatClampNeg) (xs (nI i + 3).toNatClampNeg))))) (wl := ([zX5 adB adA bs, zAL cO adA 3 lf, zAJ cJ adU 1 (ofL T (xs (nI i + 1).toNatClampNeg) (fun s => lo_setGuard s uo (xs (nI i + 2).toNatClampNeg) (xs (nI i + 3).toNatClampNeg)) uo)] ++ (wL cI cJ a.1 (onL T (xs (nI i + 1).toNatClampNeg) (fun s => lu_setGuard s (xs (nI i + 2).toNatClampNeg) (xs (nI i + 3).toNatClampNeg))).1 ++ (wL cI cJ a.2.1 (onL T (xs (nI i + 1).toNatClampNeg) (fun s => lu_setGuard s (xs (nI i + 2).toNatClampNeg) (xs (nI i + 3).toNatClampNeg))).2.1 ++ wL cI cJ a.2.2 (onL T (xs (nI i + 1).toNatClampNeg) (fun s => lu_setGuard s (xs (nI i + 2).toNatClampNeg) (xs (nI i + 3).toNatClampNeg))).2.2)))) (wr := (wM cI cJ cZ am M)) (wq := (wM cI cJ cZ am (um_setGuard M (xs (nI i + 1).toNatClampNeg) (xs (nI i + 2).toNatClampNeg) (xs (nI i + 3).toNatClampNeg)))) (rv := (rm_setGuard M (xs (nI i + 1).toNatClampNeg) (xs (nI i + 2).toNatClampNeg) (xs (nI i + 3).toNatClampNeg))) (rest := []) (va_runV (As := [.int (xs (nI i + 1).toNatClampNeg), .int (xs (nI i + 2).toNatClampNeg), .int (xs (nI i + 3).toNatClampNeg)]) (rest := []) ⟨hx, hb, hml, hown, hts⟩ (d_X6_setGuard l dC dI cI cJ cZ cO am M (xs (nI i + 1).toNatClampNeg) (xs (nI i + 2).toNatClampNeg) (xs (nI i + 3).toNatClampNeg) _ ) (cwV 3 hts (gd_V wd_4_237 wd_4_238 wd_4_239 wd_1_7 wd_5_0) rfl rfl rfl (by decide +kernel) ⟨Nat.le_of_ble_eq_true rfl, Nat.le_of_ble_eq_true rfl⟩) (lw_Rq (ci := 6) (q := (RX6, TX6, 42)) (q0 := 0) rfl rfl gU_c (fun _ _ _ => trivial) hK hp hP hD) rfl rfl hl.1 rfl (lv_room (Nat.le_of_ble_eq_true rfl)) dL_law_612 ⟨by show cells + 8 + 0 ≤ 650651; omega, by show slots + 64 + 0 ≤ 7144151; omega⟩) hp (pe_m _ _ _ _ _) hP hD hS hA (fun H locs hP hD hS => ?_)
  refine lv_istore (lv' := [(6, .int (rm_setGuard M (xs (nI i + 1).toNatClampNeg) (xs (nI i + 2).toNatClampNeg) (xs (nI i + 3).toNatClampNeg))), (5, .int (ofL T (xs (nI i + 1).toNatClampNeg) (fun s => lr_setGuard s (xs (nI i + 2).toNatClampNeg) (xs (nI i + 3).toNatClampNeg)) 1)), (4, .int (nI i)), (0, .ref b), (1, .ref adB), (2, .ref (yq_adM am)), (3, .ref adU)]) hx hb dL_law_615 hl (by decide) rfl (fun ls hl => ?_)
  refine lv_aload_n hx hb dL_law_617 rfl (lv_at hl 5 rfl) ?_
  have hp : (wG cI cJ cO adU (ofL T (xs (nI i + 1).toNatClampNeg) (fun s => lo_setGuard s uo (xs (nI i + 2).toNatClampNeg) (xs (nI i + 3).toNatClampNeg)) uo) adB adA lf bs a (onL T (xs (nI i + 1).toNatClampNeg) (fun s => lu_setGuard s (xs (nI i + 2).toNatClampNeg) (xs (nI i + 3).toNatClampNeg))) (wM cI cJ cZ am (um_setGuard M (xs (nI i + 1).toNatClampNeg) (xs (nI i + 2).toNatClampNeg) (xs (nI i + 3).toNatClampNeg)))).Perm (([zX5 adB adA bs, zAL cO adA 3 lf, zAJ cJ adU 1 (ofL T (xs (nI i + 1).toNatClampNeg) (fun s => lo_setGuard s uo (xs (nI i + 2).toNatClampNeg) (xs (nI i + 3).toNatClampNeg)) uo)] ++ (wL cI cJ a.1 (onL T (xs (nI i + 1).toNatClampNeg) (fun s => lu_setGuard s (xs (nI i + 2).toNatClampNeg) (xs (nI i + 3).toNatClampNeg))).1 ++ (wL cI cJ a.2.1 (onL T (xs (nI i + 1).toNatClampNeg) (fun s => lu_setGuard s (xs (nI i + 2).toNatClampNeg) (xs (nI i + 3).toNatClampNeg))).2.1 ++ wL cI cJ a.2.2 (onL T (xs (nI i + 1).toNatClampNeg) (fun s => lu_setGuard s (xs (nI i + 2).toNatClampNeg) (xs (nI i + 3).toNatClampNeg))).2.2))) ++ (wM cI cJ cZ am (um_setGuard M (xs (nI i + 1).toNatClampNeg) (xs (nI i + 2).toNatClampNeg) (xs (nI i + 3).toNatClampNeg)))) := pe_m _ _ _ _ _
  refine lw_Ri2 (w1 := (wG cI cJ cO adU (ofL T (xs (nI i + 1).toNatClampNeg) (fun s => lo_setGuard s uo (xs (nI i + 2).toNatClampNeg) (xs (nI i + 3).toNatClampNeg)) uo) adB adA lf bs a (onL T (xs (nI i + 1).toNatClampNeg) (fun s => lu_setGuard s (xs (nI i + 2).toNatClampNeg) (xs (nI i + 3).toNatClampNeg))) (wM cI cJ cZ am (um_setGuard M (xs (nI i + 1).toNatClampNeg) (xs (nI i + 2).toNatClampNeg) (xs (nI i + 3).toNatClampNeg))))) (wl := ([zX5 adB adA bs, zAL cO adA 3 lf, zAJ cJ adU 1 (ofL T (xs (nI i + 1).toNatClampNeg) (fun s => lo_setGuard s uo (xs (nI i + 2).toNatClampNeg) (xs (nI i + 3).toNatClampNeg)) uo)] ++ (wL cI cJ a.1 (onL T (xs (nI i + 1).toNatClampNeg) (fun s => lu_setGuard s (xs (nI i + 2).toNatClampNeg) (xs (nI i + 3).toNatClampNeg))).1 ++ (wL cI cJ a.2.1 (onL T (xs (nI i + 1).toNatClampNeg) (fun s => lu_setGuard s (xs (nI i + 2).toNatClampNeg) (xs (nI i + 3).toNatClampNeg))).2.1 ++ wL cI cJ a.2.2 (onL T (xs (nI i + 1).toNatClampNeg) (fun s => lu_setGuard s (xs (nI i + 2).toNatClampNeg) (xs (nI i + 3).toNatClampNeg))).2.2)))) (wr := (wM cI cJ cZ am (um_setGuard M (xs (nI i + 1).toNatClampNeg) (xs (nI i + 2).toNatClampNeg) (xs (nI i + 3).toNatClampNeg)))) (wq := (wM cI cJ cZ am (um_thrown (um_setGuard M (xs (nI i + 1).toNatClampNeg) (xs (nI i + 2).toNatClampNeg) (xs (nI i + 3).toNatClampNeg))))) (rv := (rm_thrown (um_setGuard M (xs (nI i + 1).toNatClampNeg) (xs (nI i + 2).toNatClampNeg) (xs (nI i + 3).toNatClampNeg)))) (rest := []) (va_runV (As := []) (rest := []) ⟨hx, hb, hml, hown, hts⟩ (d_X6_thrown l dC dI cI cJ cZ cO am (um_setGuard M (xs (nI i + 1).toNatClampNeg) (xs (nI i + 2).toNatClampNeg) (xs (nI i + 3).toNatClampNeg)) _) (cwV 0 hts (gd_V wd_4_184 wd_4_185 wd_4_186 wd_1_7 wd_4_187) rfl rfl rfl (by decide +kernel) ⟨Nat.le_of_ble_eq_true rfl, Nat.le_of_ble_eq_true rfl⟩) (lw_Rq (ci := 6) (q := (RX6, TX6, 42)) (q0 := 0) rfl rfl gU_c (fun _ _ _ => trivial) hK hp hP hD) rfl rfl hl.1 rfl (lv_room (Nat.le_of_ble_eq_true rfl)) dL_law_618 ⟨by show cells + 8 + 0 ≤ 650651; omega, by show slots + 64 + 0 ≤ 7144151; omega⟩) hp (pe_m _ _ _ _ _) hP hD hS hA (fun H locs hP hD hS => ?_)
  refine lv_iload hx hb dL_law_621 (lv_at hl 1 rfl) ?_
  refine lv_icmp_eq (tgt := 628) hx hb dL_law_623 (by decide) (fun h9 => ?_) (fun h9 => absurd r1 h9)
  refine lv_iload hx hb dL_law_628 (lv_at hl 1 rfl) ?_
  refine lv_if_ne (tgt := 645) hx hb dL_law_630 (by decide) (fun h8 => ?_) (fun h8 => ?_)
  · refine lv_goto (tgt := 1881) hx hb dL_law_645 (by decide) ?_
    exact kk _ _ _ _ H locs ls r3 hP hD hS (lv_sub hl [2, 3, 4, 5, 6] rfl)
  · skip
    refine lv_aload_n hx hb dL_law_633 rfl (lv_at hl 6 rfl) ?_
    refine lv_iconst (v := 0) hx hb dL_law_634 (by decide) ?_
    refine va_lald hx hb hK hP 2 1 rfl rfl (i := (0 : Int32)) (ix_d (by decide)) dL_law_635 ?_
    refine lv_iload hx hb dL_law_636 (lv_at hl 0 rfl) ?_
    refine lv_i2l hx hb dL_law_638 rfl ?_
    refine hh_ceq (tgt := 645) hx hb dL_law_639 dL_law_640 (by decide) (fun h7 => ?_) (fun h7 => absurd (r2 h8) h7)
    refine lv_goto (tgt := 1881) hx hb dL_law_645 (by decide) ?_
    exact kk _ _ _ _ H locs ls r3 hP hD hS (lv_sub hl [2, 3, 4, 5, 6] rfl)
set_option maxHeartbeats 4000000 in
theorem k_setSetpoint (K : KX p l s m meth c b L xs (dC, dI) cI cJ cZ cO lf a) (hR : Rel T bs M) (hi : i + 6 ≤ L) (hc : cells + 8 ≤ 650651) (hs : slots + 64 ≤ 7144151) (hP : va_P (dC, dI) vwCl (wG cI cJ cO adU uo adB adA lf bs a T (wM cI cJ cZ am M)) H) (hD : va_D (fun q => s.heap.size ≤ q) (wG cI cJ cO adU uo adB adA lf bs a T (wM cI cJ cZ am M))) (hS : va_S (fun q => s.heap.size ≤ q) s.heap H locs) (hl : lv_has ls 8 [(4, .int (nI i)), (0, .ref b), (1, .ref adB), (2, .ref (yq_adM am)), (3, .ref adU)])
    (kk : ∀ (uo : Nat → Int64) (bs : Int32) (T : LT × LT × LT) (M : MT) (H : Heap) (locs : List Loc) (ls : Array Slot), Rel T bs M → va_P (dC, dI) vwCl (wG cI cJ cO adU uo adB adA lf bs a T (wM cI cJ cZ am M)) H → va_D (fun q => s.heap.size ≤ q) (wG cI cJ cO adU uo adB adA lf bs a T (wM cI cJ cZ am M)) → va_S (fun q => s.heap.size ≤ q) s.heap H locs → lv_has ls 8 [(4, .int (nI i)), (0, .ref b), (1, .ref adB), (2, .ref (yq_adM am)), (3, .ref adU)] → W p l e room_1 s m #[Value.ref b] below meth c H locs (cells + 8) (slots + 64) Q (F0 m 1881 ls [])) : W p l e room_1 s m #[Value.ref b] below meth c H locs cells slots Q (F0 m 648 ls []) := by
  obtain ⟨hx, hb, hr, hml, hown, hts, hX, hbl, hlocks, hG, hfl, hK, hf0, hf1, hf2, hL⟩ := id K
  have hA : ∀ q : Nat, s.heap.size ≤ q → (fun q => s.heap.size ≤ q) q := fun _ h => h
  have hbA : ¬ (fun q => s.heap.size ≤ q) b := Nat.not_le.mpr hbl
  obtain ⟨r1, r2, r3⟩ := rel_setSetpoint hR (xs (nI i + 1).toNatClampNeg) (xs (nI i + 2).toNatClampNeg) uo
  refine lv_aload_n hx hb dL_law_648 rfl (lv_at hl 2 rfl) ?_
  refine lv_aload_n hx hb dL_law_649 rfl (lv_at hl 1 rfl) ?_
  refine lv_iload hx hb dL_law_650 (lv_at hl 0 rfl) ?_
  refine lv_iconst (v := 1) hx hb dL_law_652 (by decide) ?_
  refine lv_iadd hx hb dL_law_653 ?_
  refine va_sld hx hb hX hbl hbA hS (lw_in (j := 1) (by decide) hi hL) dL_law_654 ?_
  refine lv_aload_n hx hb dL_law_655 rfl (lv_at hl 1 rfl) ?_
  refine lv_iload hx hb dL_law_656 (lv_at hl 0 rfl) ?_
  refine lv_iconst (v := 2) hx hb dL_law_658 (by decide) ?_
  refine lv_iadd hx hb dL_law_659 ?_
  refine va_sld hx hb hX hbl hbA hS (lw_in (j := 2) (by decide) hi hL) dL_law_660 ?_
  refine lv_aload_n hx hb dL_law_661 rfl (lv_at hl 4 rfl) ?_
  refine s_setSetpoint K (xs (nI i + 1).toNatClampNeg) (xs (nI i + 2).toNatClampNeg)  hc hs hP hD hS hl.1 dL_law_662 (fun H locs hP hD hS => ?_)
  refine lv_istore (lv' := [(5, .int (ofL T (xs (nI i + 1).toNatClampNeg) (fun s => lr_setSetpoint s (xs (nI i + 2).toNatClampNeg)) 1)), (4, .int (nI i)), (0, .ref b), (1, .ref adB), (2, .ref (yq_adM am)), (3, .ref adU)]) hx hb dL_law_665 hl (by decide) rfl (fun ls hl => ?_)
  refine lv_aload_n hx hb dL_law_667 rfl (lv_at hl 4 rfl) ?_
  refine lv_aload_n hx hb dL_law_668 rfl (lv_at hl 2 rfl) ?_
  refine lv_iload hx hb dL_law_669 (lv_at hl 1 rfl) ?_
  refine lv_iconst (v := 1) hx hb dL_law_671 (by decide) ?_
  refine lv_iadd hx hb dL_law_672 ?_
  refine va_sld hx hb hX hbl hbA hS (lw_in (j := 1) (by decide) hi hL) dL_law_673 ?_
  refine lv_aload_n hx hb dL_law_674 rfl (lv_at hl 2 rfl) ?_
  refine lv_iload hx hb dL_law_675 (lv_at hl 1 rfl) ?_
  refine lv_iconst (v := 2) hx hb dL_law_677 (by decide) ?_
  refine lv_iadd hx hb dL_law_678 ?_
  refine va_sld hx hb hX hbl hbA hS (lw_in (j := 2) (by decide) hi hL) dL_law_679 ?_
  have hp : (wG cI cJ cO adU (ofL T (xs (nI i + 1).toNatClampNeg) (fun s => lo_setSetpoint s uo (xs (nI i + 2).toNatClampNeg)) uo) adB adA lf bs a (onL T (xs (nI i + 1).toNatClampNeg) (fun s => lu_setSetpoint s (xs (nI i + 2).toNatClampNeg))) (wM cI cJ cZ am M)).Perm (([zX5 adB adA bs, zAL cO adA 3 lf, zAJ cJ adU 1 (ofL T (xs (nI i + 1).toNatClampNeg) (fun s => lo_setSetpoint s uo (xs (nI i + 2).toNatClampNeg)) uo)] ++ (wL cI cJ a.1 (onL T (xs (nI i + 1).toNatClampNeg) (fun s => lu_setSetpoint s (xs (nI i + 2).toNatClampNeg))).1 ++ (wL cI cJ a.2.1 (onL T (xs (nI i + 1).toNatClampNeg) (fun s => lu_setSetpoint s (xs (nI i + 2).toNatClampNeg))).2.1 ++ wL cI cJ a.2.2 (onL T (xs (nI i + 1).toNatClampNeg) (fun s => lu_setSetpoint s (xs (nI i + 2).toNatClampNeg))).2.2))) ++ (wM cI cJ cZ am M)) := pe_m _ _ _ _ _
  refine lw_Ri2 (w1 := (wG cI cJ cO adU (ofL T (xs (nI i + 1).toNatClampNeg) (fun s => lo_setSetpoint s uo (xs (nI i + 2).toNatClampNeg)) uo) adB adA lf bs a (onL T (xs (nI i + 1).toNatClampNeg) (fun s => lu_setSetpoint s (xs (nI i + 2).toNatClampNeg))) (wM cI cJ cZ am (um_setSetpoint M (xs (nI i + 1).toNatClampNeg) (xs (nI i + 2).toNatClampNeg))))) (wl := ([zX5 adB adA bs, zAL cO adA 3 lf, zAJ cJ adU 1 (ofL T (xs (nI i + 1).toNatClampNeg) (fun s => lo_setSetpoint s uo (xs (nI i + 2).toNatClampNeg)) uo)] ++ (wL cI cJ a.1 (onL T (xs (nI i + 1).toNatClampNeg) (fun s => lu_setSetpoint s (xs (nI i + 2).toNatClampNeg))).1 ++ (wL cI cJ a.2.1 (onL T (xs (nI i + 1).toNatClampNeg) (fun s => lu_setSetpoint s (xs (nI i + 2).toNatClampNeg))).2.1 ++ wL cI cJ a.2.2 (onL T (xs (nI i + 1).toNatClampNeg) (fun s => lu_setSetpoint s (xs (nI i + 2).toNatClampNeg))).2.2)))) (wr := (wM cI cJ cZ am M)) (wq := (wM cI cJ cZ am (um_setSetpoint M (xs (nI i + 1).toNatClampNeg) (xs (nI i + 2).toNatClampNeg)))) (rv := (rm_setSetpoint M (xs (nI i + 1).toNatClampNeg) (xs (nI i + 2).toNatClampNeg))) (rest := []) (va_runV (As := [.int (xs (nI i + 1).toNatClampNeg), .int (xs (nI i + 2).toNatClampNeg)]) (rest := []) ⟨hx, hb, hml, hown, hts⟩ (d_X6_setSetpoint l dC dI cI cJ cZ cO am M (xs (nI i + 1).toNatClampNeg) (xs (nI i + 2).toNatClampNeg) _ ) (cwV 2 hts (gd_V wd_5_1 wd_5_2 wd_5_3 wd_1_7 wd_5_4) rfl rfl rfl (by decide +kernel) ⟨Nat.le_of_ble_eq_true rfl, Nat.le_of_ble_eq_true rfl⟩) (lw_Rq (ci := 6) (q := (RX6, TX6, 42)) (q0 := 0) rfl rfl gU_c (fun _ _ _ => trivial) hK hp hP hD) rfl rfl hl.1 rfl (lv_room (Nat.le_of_ble_eq_true rfl)) dL_law_680 ⟨by show cells + 8 + 0 ≤ 650651; omega, by show slots + 64 + 0 ≤ 7144151; omega⟩) hp (pe_m _ _ _ _ _) hP hD hS hA (fun H locs hP hD hS => ?_)
  refine lv_istore (lv' := [(6, .int (rm_setSetpoint M (xs (nI i + 1).toNatClampNeg) (xs (nI i + 2).toNatClampNeg))), (5, .int (ofL T (xs (nI i + 1).toNatClampNeg) (fun s => lr_setSetpoint s (xs (nI i + 2).toNatClampNeg)) 1)), (4, .int (nI i)), (0, .ref b), (1, .ref adB), (2, .ref (yq_adM am)), (3, .ref adU)]) hx hb dL_law_683 hl (by decide) rfl (fun ls hl => ?_)
  refine lv_aload_n hx hb dL_law_685 rfl (lv_at hl 5 rfl) ?_
  have hp : (wG cI cJ cO adU (ofL T (xs (nI i + 1).toNatClampNeg) (fun s => lo_setSetpoint s uo (xs (nI i + 2).toNatClampNeg)) uo) adB adA lf bs a (onL T (xs (nI i + 1).toNatClampNeg) (fun s => lu_setSetpoint s (xs (nI i + 2).toNatClampNeg))) (wM cI cJ cZ am (um_setSetpoint M (xs (nI i + 1).toNatClampNeg) (xs (nI i + 2).toNatClampNeg)))).Perm (([zX5 adB adA bs, zAL cO adA 3 lf, zAJ cJ adU 1 (ofL T (xs (nI i + 1).toNatClampNeg) (fun s => lo_setSetpoint s uo (xs (nI i + 2).toNatClampNeg)) uo)] ++ (wL cI cJ a.1 (onL T (xs (nI i + 1).toNatClampNeg) (fun s => lu_setSetpoint s (xs (nI i + 2).toNatClampNeg))).1 ++ (wL cI cJ a.2.1 (onL T (xs (nI i + 1).toNatClampNeg) (fun s => lu_setSetpoint s (xs (nI i + 2).toNatClampNeg))).2.1 ++ wL cI cJ a.2.2 (onL T (xs (nI i + 1).toNatClampNeg) (fun s => lu_setSetpoint s (xs (nI i + 2).toNatClampNeg))).2.2))) ++ (wM cI cJ cZ am (um_setSetpoint M (xs (nI i + 1).toNatClampNeg) (xs (nI i + 2).toNatClampNeg)))) := pe_m _ _ _ _ _
  refine lw_Ri2 (w1 := (wG cI cJ cO adU (ofL T (xs (nI i + 1).toNatClampNeg) (fun s => lo_setSetpoint s uo (xs (nI i + 2).toNatClampNeg)) uo) adB adA lf bs a (onL T (xs (nI i + 1).toNatClampNeg) (fun s => lu_setSetpoint s (xs (nI i + 2).toNatClampNeg))) (wM cI cJ cZ am (um_setSetpoint M (xs (nI i + 1).toNatClampNeg) (xs (nI i + 2).toNatClampNeg))))) (wl := ([zX5 adB adA bs, zAL cO adA 3 lf, zAJ cJ adU 1 (ofL T (xs (nI i + 1).toNatClampNeg) (fun s => lo_setSetpoint s uo (xs (nI i + 2).toNatClampNeg)) uo)] ++ (wL cI cJ a.1 (onL T (xs (nI i + 1).toNatClampNeg) (fun s => lu_setSetpoint s (xs (nI i + 2).toNatClampNeg))).1 ++ (wL cI cJ a.2.1 (onL T (xs (nI i + 1).toNatClampNeg) (fun s => lu_setSetpoint s (xs (nI i + 2).toNatClampNeg))).2.1 ++ wL cI cJ a.2.2 (onL T (xs (nI i + 1).toNatClampNeg) (fun s => lu_setSetpoint s (xs (nI i + 2).toNatClampNeg))).2.2)))) (wr := (wM cI cJ cZ am (um_setSetpoint M (xs (nI i + 1).toNatClampNeg) (xs (nI i + 2).toNatClampNeg)))) (wq := (wM cI cJ cZ am (um_thrown (um_setSetpoint M (xs (nI i + 1).toNatClampNeg) (xs (nI i + 2).toNatClampNeg))))) (rv := (rm_thrown (um_setSetpoint M (xs (nI i + 1).toNatClampNeg) (xs (nI i + 2).toNatClampNeg)))) (rest := []) (va_runV (As := []) (rest := []) ⟨hx, hb, hml, hown, hts⟩ (d_X6_thrown l dC dI cI cJ cZ cO am (um_setSetpoint M (xs (nI i + 1).toNatClampNeg) (xs (nI i + 2).toNatClampNeg)) _) (cwV 0 hts (gd_V wd_4_184 wd_4_185 wd_4_186 wd_1_7 wd_4_187) rfl rfl rfl (by decide +kernel) ⟨Nat.le_of_ble_eq_true rfl, Nat.le_of_ble_eq_true rfl⟩) (lw_Rq (ci := 6) (q := (RX6, TX6, 42)) (q0 := 0) rfl rfl gU_c (fun _ _ _ => trivial) hK hp hP hD) rfl rfl hl.1 rfl (lv_room (Nat.le_of_ble_eq_true rfl)) dL_law_686 ⟨by show cells + 8 + 0 ≤ 650651; omega, by show slots + 64 + 0 ≤ 7144151; omega⟩) hp (pe_m _ _ _ _ _) hP hD hS hA (fun H locs hP hD hS => ?_)
  refine lv_iload hx hb dL_law_689 (lv_at hl 1 rfl) ?_
  refine lv_icmp_eq (tgt := 696) hx hb dL_law_691 (by decide) (fun h9 => ?_) (fun h9 => absurd r1 h9)
  refine lv_iload hx hb dL_law_696 (lv_at hl 1 rfl) ?_
  refine lv_if_ne (tgt := 713) hx hb dL_law_698 (by decide) (fun h8 => ?_) (fun h8 => ?_)
  · refine lv_goto (tgt := 1881) hx hb dL_law_713 (by decide) ?_
    exact kk _ _ _ _ H locs ls r3 hP hD hS (lv_sub hl [2, 3, 4, 5, 6] rfl)
  · skip
    refine lv_aload_n hx hb dL_law_701 rfl (lv_at hl 6 rfl) ?_
    refine lv_iconst (v := 0) hx hb dL_law_702 (by decide) ?_
    refine va_lald hx hb hK hP 2 1 rfl rfl (i := (0 : Int32)) (ix_d (by decide)) dL_law_703 ?_
    refine lv_iload hx hb dL_law_704 (lv_at hl 0 rfl) ?_
    refine lv_i2l hx hb dL_law_706 rfl ?_
    refine hh_ceq (tgt := 713) hx hb dL_law_707 dL_law_708 (by decide) (fun h7 => ?_) (fun h7 => absurd (r2 h8) h7)
    refine lv_goto (tgt := 1881) hx hb dL_law_713 (by decide) ?_
    exact kk _ _ _ _ H locs ls r3 hP hD hS (lv_sub hl [2, 3, 4, 5, 6] rfl)
set_option maxHeartbeats 4000000 in
theorem k_setHand (K : KX p l s m meth c b L xs (dC, dI) cI cJ cZ cO lf a) (hR : Rel T bs M) (hi : i + 6 ≤ L) (hc : cells + 8 ≤ 650651) (hs : slots + 64 ≤ 7144151) (hP : va_P (dC, dI) vwCl (wG cI cJ cO adU uo adB adA lf bs a T (wM cI cJ cZ am M)) H) (hD : va_D (fun q => s.heap.size ≤ q) (wG cI cJ cO adU uo adB adA lf bs a T (wM cI cJ cZ am M))) (hS : va_S (fun q => s.heap.size ≤ q) s.heap H locs) (hl : lv_has ls 8 [(4, .int (nI i)), (0, .ref b), (1, .ref adB), (2, .ref (yq_adM am)), (3, .ref adU)])
    (kk : ∀ (uo : Nat → Int64) (bs : Int32) (T : LT × LT × LT) (M : MT) (H : Heap) (locs : List Loc) (ls : Array Slot), Rel T bs M → va_P (dC, dI) vwCl (wG cI cJ cO adU uo adB adA lf bs a T (wM cI cJ cZ am M)) H → va_D (fun q => s.heap.size ≤ q) (wG cI cJ cO adU uo adB adA lf bs a T (wM cI cJ cZ am M)) → va_S (fun q => s.heap.size ≤ q) s.heap H locs → lv_has ls 8 [(4, .int (nI i)), (0, .ref b), (1, .ref adB), (2, .ref (yq_adM am)), (3, .ref adU)] → W p l e room_1 s m #[Value.ref b] below meth c H locs (cells + 8) (slots + 64) Q (F0 m 1881 ls [])) : W p l e room_1 s m #[Value.ref b] below meth c H locs cells slots Q (F0 m 716 ls []) := by
  obtain ⟨hx, hb, hr, hml, hown, hts, hX, hbl, hlocks, hG, hfl, hK, hf0, hf1, hf2, hL⟩ := id K
  have hA : ∀ q : Nat, s.heap.size ≤ q → (fun q => s.heap.size ≤ q) q := fun _ h => h
  have hbA : ¬ (fun q => s.heap.size ≤ q) b := Nat.not_le.mpr hbl
  obtain ⟨r1, r2, r3⟩ := rel_setHand hR (xs (nI i + 1).toNatClampNeg) (xs (nI i + 2).toNatClampNeg) uo
  refine lv_aload_n hx hb dL_law_716 rfl (lv_at hl 2 rfl) ?_
  refine lv_aload_n hx hb dL_law_717 rfl (lv_at hl 1 rfl) ?_
  refine lv_iload hx hb dL_law_718 (lv_at hl 0 rfl) ?_
  refine lv_iconst (v := 1) hx hb dL_law_720 (by decide) ?_
  refine lv_iadd hx hb dL_law_721 ?_
  refine va_sld hx hb hX hbl hbA hS (lw_in (j := 1) (by decide) hi hL) dL_law_722 ?_
  refine lv_aload_n hx hb dL_law_723 rfl (lv_at hl 1 rfl) ?_
  refine lv_iload hx hb dL_law_724 (lv_at hl 0 rfl) ?_
  refine lv_iconst (v := 2) hx hb dL_law_726 (by decide) ?_
  refine lv_iadd hx hb dL_law_727 ?_
  refine va_sld hx hb hX hbl hbA hS (lw_in (j := 2) (by decide) hi hL) dL_law_728 ?_
  refine lv_aload_n hx hb dL_law_729 rfl (lv_at hl 4 rfl) ?_
  refine s_setHand K (xs (nI i + 1).toNatClampNeg) (xs (nI i + 2).toNatClampNeg)  hc hs hP hD hS hl.1 dL_law_730 (fun H locs hP hD hS => ?_)
  refine lv_istore (lv' := [(5, .int (ofL T (xs (nI i + 1).toNatClampNeg) (fun s => lr_setHand s (xs (nI i + 2).toNatClampNeg)) 1)), (4, .int (nI i)), (0, .ref b), (1, .ref adB), (2, .ref (yq_adM am)), (3, .ref adU)]) hx hb dL_law_733 hl (by decide) rfl (fun ls hl => ?_)
  refine lv_aload_n hx hb dL_law_735 rfl (lv_at hl 4 rfl) ?_
  refine lv_aload_n hx hb dL_law_736 rfl (lv_at hl 2 rfl) ?_
  refine lv_iload hx hb dL_law_737 (lv_at hl 1 rfl) ?_
  refine lv_iconst (v := 1) hx hb dL_law_739 (by decide) ?_
  refine lv_iadd hx hb dL_law_740 ?_
  refine va_sld hx hb hX hbl hbA hS (lw_in (j := 1) (by decide) hi hL) dL_law_741 ?_
  refine lv_aload_n hx hb dL_law_742 rfl (lv_at hl 2 rfl) ?_
  refine lv_iload hx hb dL_law_743 (lv_at hl 1 rfl) ?_
  refine lv_iconst (v := 2) hx hb dL_law_745 (by decide) ?_
  refine lv_iadd hx hb dL_law_746 ?_
  refine va_sld hx hb hX hbl hbA hS (lw_in (j := 2) (by decide) hi hL) dL_law_747 ?_
  have hp : (wG cI cJ cO adU (ofL T (xs (nI i + 1).toNatClampNeg) (fun s => lo_setHand s uo (xs (nI i + 2).toNatClampNeg)) uo) adB adA lf bs a (onL T (xs (nI i + 1).toNatClampNeg) (fun s => lu_setHand s (xs (nI i + 2).toNatClampNeg))) (wM cI cJ cZ am M)).Perm (([zX5 adB adA bs, zAL cO adA 3 lf, zAJ cJ adU 1 (ofL T (xs (nI i + 1).toNatClampNeg) (fun s => lo_setHand s uo (xs (nI i + 2).toNatClampNeg)) uo)] ++ (wL cI cJ a.1 (onL T (xs (nI i + 1).toNatClampNeg) (fun s => lu_setHand s (xs (nI i + 2).toNatClampNeg))).1 ++ (wL cI cJ a.2.1 (onL T (xs (nI i + 1).toNatClampNeg) (fun s => lu_setHand s (xs (nI i + 2).toNatClampNeg))).2.1 ++ wL cI cJ a.2.2 (onL T (xs (nI i + 1).toNatClampNeg) (fun s => lu_setHand s (xs (nI i + 2).toNatClampNeg))).2.2))) ++ (wM cI cJ cZ am M)) := pe_m _ _ _ _ _
  refine lw_Ri2 (w1 := (wG cI cJ cO adU (ofL T (xs (nI i + 1).toNatClampNeg) (fun s => lo_setHand s uo (xs (nI i + 2).toNatClampNeg)) uo) adB adA lf bs a (onL T (xs (nI i + 1).toNatClampNeg) (fun s => lu_setHand s (xs (nI i + 2).toNatClampNeg))) (wM cI cJ cZ am (um_setHand M (xs (nI i + 1).toNatClampNeg) (xs (nI i + 2).toNatClampNeg))))) (wl := ([zX5 adB adA bs, zAL cO adA 3 lf, zAJ cJ adU 1 (ofL T (xs (nI i + 1).toNatClampNeg) (fun s => lo_setHand s uo (xs (nI i + 2).toNatClampNeg)) uo)] ++ (wL cI cJ a.1 (onL T (xs (nI i + 1).toNatClampNeg) (fun s => lu_setHand s (xs (nI i + 2).toNatClampNeg))).1 ++ (wL cI cJ a.2.1 (onL T (xs (nI i + 1).toNatClampNeg) (fun s => lu_setHand s (xs (nI i + 2).toNatClampNeg))).2.1 ++ wL cI cJ a.2.2 (onL T (xs (nI i + 1).toNatClampNeg) (fun s => lu_setHand s (xs (nI i + 2).toNatClampNeg))).2.2)))) (wr := (wM cI cJ cZ am M)) (wq := (wM cI cJ cZ am (um_setHand M (xs (nI i + 1).toNatClampNeg) (xs (nI i + 2).toNatClampNeg)))) (rv := (rm_setHand M (xs (nI i + 1).toNatClampNeg) (xs (nI i + 2).toNatClampNeg))) (rest := []) (va_runV (As := [.int (xs (nI i + 1).toNatClampNeg), .int (xs (nI i + 2).toNatClampNeg)]) (rest := []) ⟨hx, hb, hml, hown, hts⟩ (d_X6_setHand l dC dI cI cJ cZ cO am M (xs (nI i + 1).toNatClampNeg) (xs (nI i + 2).toNatClampNeg) _ ) (cwV 2 hts (gd_V wd_5_5 wd_5_6 wd_5_7 wd_1_7 wd_5_8) rfl rfl rfl (by decide +kernel) ⟨Nat.le_of_ble_eq_true rfl, Nat.le_of_ble_eq_true rfl⟩) (lw_Rq (ci := 6) (q := (RX6, TX6, 42)) (q0 := 0) rfl rfl gU_c (fun _ _ _ => trivial) hK hp hP hD) rfl rfl hl.1 rfl (lv_room (Nat.le_of_ble_eq_true rfl)) dL_law_748 ⟨by show cells + 8 + 0 ≤ 650651; omega, by show slots + 64 + 0 ≤ 7144151; omega⟩) hp (pe_m _ _ _ _ _) hP hD hS hA (fun H locs hP hD hS => ?_)
  refine lv_istore (lv' := [(6, .int (rm_setHand M (xs (nI i + 1).toNatClampNeg) (xs (nI i + 2).toNatClampNeg))), (5, .int (ofL T (xs (nI i + 1).toNatClampNeg) (fun s => lr_setHand s (xs (nI i + 2).toNatClampNeg)) 1)), (4, .int (nI i)), (0, .ref b), (1, .ref adB), (2, .ref (yq_adM am)), (3, .ref adU)]) hx hb dL_law_751 hl (by decide) rfl (fun ls hl => ?_)
  refine lv_aload_n hx hb dL_law_753 rfl (lv_at hl 5 rfl) ?_
  have hp : (wG cI cJ cO adU (ofL T (xs (nI i + 1).toNatClampNeg) (fun s => lo_setHand s uo (xs (nI i + 2).toNatClampNeg)) uo) adB adA lf bs a (onL T (xs (nI i + 1).toNatClampNeg) (fun s => lu_setHand s (xs (nI i + 2).toNatClampNeg))) (wM cI cJ cZ am (um_setHand M (xs (nI i + 1).toNatClampNeg) (xs (nI i + 2).toNatClampNeg)))).Perm (([zX5 adB adA bs, zAL cO adA 3 lf, zAJ cJ adU 1 (ofL T (xs (nI i + 1).toNatClampNeg) (fun s => lo_setHand s uo (xs (nI i + 2).toNatClampNeg)) uo)] ++ (wL cI cJ a.1 (onL T (xs (nI i + 1).toNatClampNeg) (fun s => lu_setHand s (xs (nI i + 2).toNatClampNeg))).1 ++ (wL cI cJ a.2.1 (onL T (xs (nI i + 1).toNatClampNeg) (fun s => lu_setHand s (xs (nI i + 2).toNatClampNeg))).2.1 ++ wL cI cJ a.2.2 (onL T (xs (nI i + 1).toNatClampNeg) (fun s => lu_setHand s (xs (nI i + 2).toNatClampNeg))).2.2))) ++ (wM cI cJ cZ am (um_setHand M (xs (nI i + 1).toNatClampNeg) (xs (nI i + 2).toNatClampNeg)))) := pe_m _ _ _ _ _
  refine lw_Ri2 (w1 := (wG cI cJ cO adU (ofL T (xs (nI i + 1).toNatClampNeg) (fun s => lo_setHand s uo (xs (nI i + 2).toNatClampNeg)) uo) adB adA lf bs a (onL T (xs (nI i + 1).toNatClampNeg) (fun s => lu_setHand s (xs (nI i + 2).toNatClampNeg))) (wM cI cJ cZ am (um_setHand M (xs (nI i + 1).toNatClampNeg) (xs (nI i + 2).toNatClampNeg))))) (wl := ([zX5 adB adA bs, zAL cO adA 3 lf, zAJ cJ adU 1 (ofL T (xs (nI i + 1).toNatClampNeg) (fun s => lo_setHand s uo (xs (nI i + 2).toNatClampNeg)) uo)] ++ (wL cI cJ a.1 (onL T (xs (nI i + 1).toNatClampNeg) (fun s => lu_setHand s (xs (nI i + 2).toNatClampNeg))).1 ++ (wL cI cJ a.2.1 (onL T (xs (nI i + 1).toNatClampNeg) (fun s => lu_setHand s (xs (nI i + 2).toNatClampNeg))).2.1 ++ wL cI cJ a.2.2 (onL T (xs (nI i + 1).toNatClampNeg) (fun s => lu_setHand s (xs (nI i + 2).toNatClampNeg))).2.2)))) (wr := (wM cI cJ cZ am (um_setHand M (xs (nI i + 1).toNatClampNeg) (xs (nI i + 2).toNatClampNeg)))) (wq := (wM cI cJ cZ am (um_thrown (um_setHand M (xs (nI i + 1).toNatClampNeg) (xs (nI i + 2).toNatClampNeg))))) (rv := (rm_thrown (um_setHand M (xs (nI i + 1).toNatClampNeg) (xs (nI i + 2).toNatClampNeg)))) (rest := []) (va_runV (As := []) (rest := []) ⟨hx, hb, hml, hown, hts⟩ (d_X6_thrown l dC dI cI cJ cZ cO am (um_setHand M (xs (nI i + 1).toNatClampNeg) (xs (nI i + 2).toNatClampNeg)) _) (cwV 0 hts (gd_V wd_4_184 wd_4_185 wd_4_186 wd_1_7 wd_4_187) rfl rfl rfl (by decide +kernel) ⟨Nat.le_of_ble_eq_true rfl, Nat.le_of_ble_eq_true rfl⟩) (lw_Rq (ci := 6) (q := (RX6, TX6, 42)) (q0 := 0) rfl rfl gU_c (fun _ _ _ => trivial) hK hp hP hD) rfl rfl hl.1 rfl (lv_room (Nat.le_of_ble_eq_true rfl)) dL_law_754 ⟨by show cells + 8 + 0 ≤ 650651; omega, by show slots + 64 + 0 ≤ 7144151; omega⟩) hp (pe_m _ _ _ _ _) hP hD hS hA (fun H locs hP hD hS => ?_)
  refine lv_iload hx hb dL_law_757 (lv_at hl 1 rfl) ?_
  refine lv_icmp_eq (tgt := 764) hx hb dL_law_759 (by decide) (fun h9 => ?_) (fun h9 => absurd r1 h9)
  refine lv_iload hx hb dL_law_764 (lv_at hl 1 rfl) ?_
  refine lv_if_ne (tgt := 781) hx hb dL_law_766 (by decide) (fun h8 => ?_) (fun h8 => ?_)
  · refine lv_goto (tgt := 1881) hx hb dL_law_781 (by decide) ?_
    exact kk _ _ _ _ H locs ls r3 hP hD hS (lv_sub hl [2, 3, 4, 5, 6] rfl)
  · skip
    refine lv_aload_n hx hb dL_law_769 rfl (lv_at hl 6 rfl) ?_
    refine lv_iconst (v := 0) hx hb dL_law_770 (by decide) ?_
    refine va_lald hx hb hK hP 2 1 rfl rfl (i := (0 : Int32)) (ix_d (by decide)) dL_law_771 ?_
    refine lv_iload hx hb dL_law_772 (lv_at hl 0 rfl) ?_
    refine lv_i2l hx hb dL_law_774 rfl ?_
    refine hh_ceq (tgt := 781) hx hb dL_law_775 dL_law_776 (by decide) (fun h7 => ?_) (fun h7 => absurd (r2 h8) h7)
    refine lv_goto (tgt := 1881) hx hb dL_law_781 (by decide) ?_
    exact kk _ _ _ _ H locs ls r3 hP hD hS (lv_sub hl [2, 3, 4, 5, 6] rfl)
set_option maxHeartbeats 4000000 in
theorem k_setTies (K : KX p l s m meth c b L xs (dC, dI) cI cJ cZ cO lf a) (hR : Rel T bs M) (hi : i + 6 ≤ L) (hc : cells + 8 ≤ 650651) (hs : slots + 64 ≤ 7144151) (hP : va_P (dC, dI) vwCl (wG cI cJ cO adU uo adB adA lf bs a T (wM cI cJ cZ am M)) H) (hD : va_D (fun q => s.heap.size ≤ q) (wG cI cJ cO adU uo adB adA lf bs a T (wM cI cJ cZ am M))) (hS : va_S (fun q => s.heap.size ≤ q) s.heap H locs) (hl : lv_has ls 8 [(4, .int (nI i)), (0, .ref b), (1, .ref adB), (2, .ref (yq_adM am)), (3, .ref adU)])
    (kk : ∀ (uo : Nat → Int64) (bs : Int32) (T : LT × LT × LT) (M : MT) (H : Heap) (locs : List Loc) (ls : Array Slot), Rel T bs M → va_P (dC, dI) vwCl (wG cI cJ cO adU uo adB adA lf bs a T (wM cI cJ cZ am M)) H → va_D (fun q => s.heap.size ≤ q) (wG cI cJ cO adU uo adB adA lf bs a T (wM cI cJ cZ am M)) → va_S (fun q => s.heap.size ≤ q) s.heap H locs → lv_has ls 8 [(4, .int (nI i)), (0, .ref b), (1, .ref adB), (2, .ref (yq_adM am)), (3, .ref adU)] → W p l e room_1 s m #[Value.ref b] below meth c H locs (cells + 8) (slots + 64) Q (F0 m 1881 ls [])) : W p l e room_1 s m #[Value.ref b] below meth c H locs cells slots Q (F0 m 784 ls []) := by
  obtain ⟨hx, hb, hr, hml, hown, hts, hX, hbl, hlocks, hG, hfl, hK, hf0, hf1, hf2, hL⟩ := id K
  have hA : ∀ q : Nat, s.heap.size ≤ q → (fun q => s.heap.size ≤ q) q := fun _ h => h
  have hbA : ¬ (fun q => s.heap.size ≤ q) b := Nat.not_le.mpr hbl
  obtain ⟨r1, r3⟩ := rel_setTies hR (xs (nI i + 1).toNatClampNeg) (bz (xs (nI i + 2).toNatClampNeg)) (bz (xs (nI i + 3).toNatClampNeg)) (bz_nar _) (bz_nar _)
  refine lv_aload_n hx hb dL_law_784 rfl (lv_at hl 2 rfl) ?_
  refine lv_aload_n hx hb dL_law_785 rfl (lv_at hl 1 rfl) ?_
  refine lv_iload hx hb dL_law_786 (lv_at hl 0 rfl) ?_
  refine lv_iconst (v := 1) hx hb dL_law_788 (by decide) ?_
  refine lv_iadd hx hb dL_law_789 ?_
  refine va_sld hx hb hX hbl hbA hS (lw_in (j := 1) (by decide) hi hL) dL_law_790 ?_
  refine lv_aload_n hx hb dL_law_791 rfl (lv_at hl 1 rfl) ?_
  refine lv_iload hx hb dL_law_792 (lv_at hl 0 rfl) ?_
  refine lv_iconst (v := 2) hx hb dL_law_794 (by decide) ?_
  refine lv_iadd hx hb dL_law_795 ?_
  refine va_sld hx hb hX hbl hbA hS (lw_in (j := 2) (by decide) hi hL) dL_law_796 ?_
  refine lw_bz hx hb dL_law_797 dL_law_800 dL_law_801 dL_law_804 ?_
  refine lv_aload_n hx hb dL_law_805 rfl (lv_at hl 1 rfl) ?_
  refine lv_iload hx hb dL_law_806 (lv_at hl 0 rfl) ?_
  refine lv_iconst (v := 3) hx hb dL_law_808 (by decide) ?_
  refine lv_iadd hx hb dL_law_809 ?_
  refine va_sld hx hb hX hbl hbA hS (lw_in (j := 3) (by decide) hi hL) dL_law_810 ?_
  refine lw_bz hx hb dL_law_811 dL_law_814 dL_law_815 dL_law_818 ?_
  refine s_setTies K (xs (nI i + 1).toNatClampNeg) (bz (xs (nI i + 2).toNatClampNeg)) (bz (xs (nI i + 3).toNatClampNeg)) (bz_n _) (bz_n _) hc hs hP hD hS hl.1 dL_law_819 (fun H locs hP hD hS => ?_)
  refine lv_istore (lv' := [(5, .int (ofL T (xs (nI i + 1).toNatClampNeg) (fun s => lr_setTies s (xs (nI i + 1).toNatClampNeg) (bz (xs (nI i + 2).toNatClampNeg)) (bz (xs (nI i + 3).toNatClampNeg))) 1)), (4, .int (nI i)), (0, .ref b), (1, .ref adB), (2, .ref (yq_adM am)), (3, .ref adU)]) hx hb dL_law_822 hl (by decide) rfl (fun ls hl => ?_)
  refine lv_aload_n hx hb dL_law_824 rfl (lv_at hl 4 rfl) ?_
  refine lv_aload_n hx hb dL_law_825 rfl (lv_at hl 2 rfl) ?_
  refine lv_iload hx hb dL_law_826 (lv_at hl 1 rfl) ?_
  refine lv_iconst (v := 1) hx hb dL_law_828 (by decide) ?_
  refine lv_iadd hx hb dL_law_829 ?_
  refine va_sld hx hb hX hbl hbA hS (lw_in (j := 1) (by decide) hi hL) dL_law_830 ?_
  refine lv_aload_n hx hb dL_law_831 rfl (lv_at hl 2 rfl) ?_
  refine lv_iload hx hb dL_law_832 (lv_at hl 1 rfl) ?_
  refine lv_iconst (v := 2) hx hb dL_law_834 (by decide) ?_
  refine lv_iadd hx hb dL_law_835 ?_
  refine va_sld hx hb hX hbl hbA hS (lw_in (j := 2) (by decide) hi hL) dL_law_836 ?_
  refine lw_bz hx hb dL_law_837 dL_law_840 dL_law_841 dL_law_844 ?_
  refine lv_aload_n hx hb dL_law_845 rfl (lv_at hl 2 rfl) ?_
  refine lv_iload hx hb dL_law_846 (lv_at hl 1 rfl) ?_
  refine lv_iconst (v := 3) hx hb dL_law_848 (by decide) ?_
  refine lv_iadd hx hb dL_law_849 ?_
  refine va_sld hx hb hX hbl hbA hS (lw_in (j := 3) (by decide) hi hL) dL_law_850 ?_
  refine lw_bz hx hb dL_law_851 dL_law_854 dL_law_855 dL_law_858 ?_
  have hp : (wG cI cJ cO adU (ofL T (xs (nI i + 1).toNatClampNeg) (fun s => lo_setTies s uo (xs (nI i + 1).toNatClampNeg) (bz (xs (nI i + 2).toNatClampNeg)) (bz (xs (nI i + 3).toNatClampNeg))) uo) adB adA lf bs a (onL T (xs (nI i + 1).toNatClampNeg) (fun s => lu_setTies s (xs (nI i + 1).toNatClampNeg) (bz (xs (nI i + 2).toNatClampNeg)) (bz (xs (nI i + 3).toNatClampNeg)))) (wM cI cJ cZ am M)).Perm (([zX5 adB adA bs, zAL cO adA 3 lf, zAJ cJ adU 1 (ofL T (xs (nI i + 1).toNatClampNeg) (fun s => lo_setTies s uo (xs (nI i + 1).toNatClampNeg) (bz (xs (nI i + 2).toNatClampNeg)) (bz (xs (nI i + 3).toNatClampNeg))) uo)] ++ (wL cI cJ a.1 (onL T (xs (nI i + 1).toNatClampNeg) (fun s => lu_setTies s (xs (nI i + 1).toNatClampNeg) (bz (xs (nI i + 2).toNatClampNeg)) (bz (xs (nI i + 3).toNatClampNeg)))).1 ++ (wL cI cJ a.2.1 (onL T (xs (nI i + 1).toNatClampNeg) (fun s => lu_setTies s (xs (nI i + 1).toNatClampNeg) (bz (xs (nI i + 2).toNatClampNeg)) (bz (xs (nI i + 3).toNatClampNeg)))).2.1 ++ wL cI cJ a.2.2 (onL T (xs (nI i + 1).toNatClampNeg) (fun s => lu_setTies s (xs (nI i + 1).toNatClampNeg) (bz (xs (nI i + 2).toNatClampNeg)) (bz (xs (nI i + 3).toNatClampNeg)))).2.2))) ++ (wM cI cJ cZ am M)) := pe_m _ _ _ _ _
  refine lw_Rv2 (w1 := (wG cI cJ cO adU (ofL T (xs (nI i + 1).toNatClampNeg) (fun s => lo_setTies s uo (xs (nI i + 1).toNatClampNeg) (bz (xs (nI i + 2).toNatClampNeg)) (bz (xs (nI i + 3).toNatClampNeg))) uo) adB adA lf bs a (onL T (xs (nI i + 1).toNatClampNeg) (fun s => lu_setTies s (xs (nI i + 1).toNatClampNeg) (bz (xs (nI i + 2).toNatClampNeg)) (bz (xs (nI i + 3).toNatClampNeg)))) (wM cI cJ cZ am (um_setTies M (xs (nI i + 1).toNatClampNeg) (bz (xs (nI i + 2).toNatClampNeg)) (bz (xs (nI i + 3).toNatClampNeg)))))) (wl := ([zX5 adB adA bs, zAL cO adA 3 lf, zAJ cJ adU 1 (ofL T (xs (nI i + 1).toNatClampNeg) (fun s => lo_setTies s uo (xs (nI i + 1).toNatClampNeg) (bz (xs (nI i + 2).toNatClampNeg)) (bz (xs (nI i + 3).toNatClampNeg))) uo)] ++ (wL cI cJ a.1 (onL T (xs (nI i + 1).toNatClampNeg) (fun s => lu_setTies s (xs (nI i + 1).toNatClampNeg) (bz (xs (nI i + 2).toNatClampNeg)) (bz (xs (nI i + 3).toNatClampNeg)))).1 ++ (wL cI cJ a.2.1 (onL T (xs (nI i + 1).toNatClampNeg) (fun s => lu_setTies s (xs (nI i + 1).toNatClampNeg) (bz (xs (nI i + 2).toNatClampNeg)) (bz (xs (nI i + 3).toNatClampNeg)))).2.1 ++ wL cI cJ a.2.2 (onL T (xs (nI i + 1).toNatClampNeg) (fun s => lu_setTies s (xs (nI i + 1).toNatClampNeg) (bz (xs (nI i + 2).toNatClampNeg)) (bz (xs (nI i + 3).toNatClampNeg)))).2.2)))) (wr := (wM cI cJ cZ am M)) (wq := (wM cI cJ cZ am (um_setTies M (xs (nI i + 1).toNatClampNeg) (bz (xs (nI i + 2).toNatClampNeg)) (bz (xs (nI i + 3).toNatClampNeg))))) (rest := []) (va_runV (As := [.int (xs (nI i + 1).toNatClampNeg), .int (bz (xs (nI i + 2).toNatClampNeg)), .int (bz (xs (nI i + 3).toNatClampNeg))]) (rest := []) ⟨hx, hb, hml, hown, hts⟩ (d_X6_setTies l dC dI cI cJ cZ cO am M (xs (nI i + 1).toNatClampNeg) (bz (xs (nI i + 2).toNatClampNeg)) (bz (xs (nI i + 3).toNatClampNeg)) _ ) (cwV 3 hts (gd_V wd_5_9 wd_5_10 wd_5_11 wd_1_7 wd_5_12) rfl rfl rfl (by decide +kernel) ⟨Nat.le_of_ble_eq_true rfl, Nat.le_of_ble_eq_true rfl⟩) (lw_Rq (ci := 6) (q := (RX6, TX6, 42)) (q0 := 0) rfl rfl gU_c (fun _ _ _ => trivial) hK hp hP hD) rfl rfl hl.1 rfl (lv_room (Nat.le_of_ble_eq_true rfl)) dL_law_859 ⟨by show cells + 8 + 0 ≤ 650651; omega, by show slots + 64 + 0 ≤ 7144151; omega⟩) hp (pe_m _ _ _ _ _) hP hD hS hA (fun H locs hP hD hS => ?_)
  refine lv_aload_n hx hb dL_law_862 rfl (lv_at hl 4 rfl) ?_
  have hp : (wG cI cJ cO adU (ofL T (xs (nI i + 1).toNatClampNeg) (fun s => lo_setTies s uo (xs (nI i + 1).toNatClampNeg) (bz (xs (nI i + 2).toNatClampNeg)) (bz (xs (nI i + 3).toNatClampNeg))) uo) adB adA lf bs a (onL T (xs (nI i + 1).toNatClampNeg) (fun s => lu_setTies s (xs (nI i + 1).toNatClampNeg) (bz (xs (nI i + 2).toNatClampNeg)) (bz (xs (nI i + 3).toNatClampNeg)))) (wM cI cJ cZ am (um_setTies M (xs (nI i + 1).toNatClampNeg) (bz (xs (nI i + 2).toNatClampNeg)) (bz (xs (nI i + 3).toNatClampNeg))))).Perm (([zX5 adB adA bs, zAL cO adA 3 lf, zAJ cJ adU 1 (ofL T (xs (nI i + 1).toNatClampNeg) (fun s => lo_setTies s uo (xs (nI i + 1).toNatClampNeg) (bz (xs (nI i + 2).toNatClampNeg)) (bz (xs (nI i + 3).toNatClampNeg))) uo)] ++ (wL cI cJ a.1 (onL T (xs (nI i + 1).toNatClampNeg) (fun s => lu_setTies s (xs (nI i + 1).toNatClampNeg) (bz (xs (nI i + 2).toNatClampNeg)) (bz (xs (nI i + 3).toNatClampNeg)))).1 ++ (wL cI cJ a.2.1 (onL T (xs (nI i + 1).toNatClampNeg) (fun s => lu_setTies s (xs (nI i + 1).toNatClampNeg) (bz (xs (nI i + 2).toNatClampNeg)) (bz (xs (nI i + 3).toNatClampNeg)))).2.1 ++ wL cI cJ a.2.2 (onL T (xs (nI i + 1).toNatClampNeg) (fun s => lu_setTies s (xs (nI i + 1).toNatClampNeg) (bz (xs (nI i + 2).toNatClampNeg)) (bz (xs (nI i + 3).toNatClampNeg)))).2.2))) ++ (wM cI cJ cZ am (um_setTies M (xs (nI i + 1).toNatClampNeg) (bz (xs (nI i + 2).toNatClampNeg)) (bz (xs (nI i + 3).toNatClampNeg))))) := pe_m _ _ _ _ _
  refine lw_Ri2 (w1 := (wG cI cJ cO adU (ofL T (xs (nI i + 1).toNatClampNeg) (fun s => lo_setTies s uo (xs (nI i + 1).toNatClampNeg) (bz (xs (nI i + 2).toNatClampNeg)) (bz (xs (nI i + 3).toNatClampNeg))) uo) adB adA lf bs a (onL T (xs (nI i + 1).toNatClampNeg) (fun s => lu_setTies s (xs (nI i + 1).toNatClampNeg) (bz (xs (nI i + 2).toNatClampNeg)) (bz (xs (nI i + 3).toNatClampNeg)))) (wM cI cJ cZ am (um_setTies M (xs (nI i + 1).toNatClampNeg) (bz (xs (nI i + 2).toNatClampNeg)) (bz (xs (nI i + 3).toNatClampNeg)))))) (wl := ([zX5 adB adA bs, zAL cO adA 3 lf, zAJ cJ adU 1 (ofL T (xs (nI i + 1).toNatClampNeg) (fun s => lo_setTies s uo (xs (nI i + 1).toNatClampNeg) (bz (xs (nI i + 2).toNatClampNeg)) (bz (xs (nI i + 3).toNatClampNeg))) uo)] ++ (wL cI cJ a.1 (onL T (xs (nI i + 1).toNatClampNeg) (fun s => lu_setTies s (xs (nI i + 1).toNatClampNeg) (bz (xs (nI i + 2).toNatClampNeg)) (bz (xs (nI i + 3).toNatClampNeg)))).1 ++ (wL cI cJ a.2.1 (onL T (xs (nI i + 1).toNatClampNeg) (fun s => lu_setTies s (xs (nI i + 1).toNatClampNeg) (bz (xs (nI i + 2).toNatClampNeg)) (bz (xs (nI i + 3).toNatClampNeg)))).2.1 ++ wL cI cJ a.2.2 (onL T (xs (nI i + 1).toNatClampNeg) (fun s => lu_setTies s (xs (nI i + 1).toNatClampNeg) (bz (xs (nI i + 2).toNatClampNeg)) (bz (xs (nI i + 3).toNatClampNeg)))).2.2)))) (wr := (wM cI cJ cZ am (um_setTies M (xs (nI i + 1).toNatClampNeg) (bz (xs (nI i + 2).toNatClampNeg)) (bz (xs (nI i + 3).toNatClampNeg))))) (wq := (wM cI cJ cZ am (um_thrown (um_setTies M (xs (nI i + 1).toNatClampNeg) (bz (xs (nI i + 2).toNatClampNeg)) (bz (xs (nI i + 3).toNatClampNeg)))))) (rv := (rm_thrown (um_setTies M (xs (nI i + 1).toNatClampNeg) (bz (xs (nI i + 2).toNatClampNeg)) (bz (xs (nI i + 3).toNatClampNeg))))) (rest := []) (va_runV (As := []) (rest := []) ⟨hx, hb, hml, hown, hts⟩ (d_X6_thrown l dC dI cI cJ cZ cO am (um_setTies M (xs (nI i + 1).toNatClampNeg) (bz (xs (nI i + 2).toNatClampNeg)) (bz (xs (nI i + 3).toNatClampNeg))) _) (cwV 0 hts (gd_V wd_4_184 wd_4_185 wd_4_186 wd_1_7 wd_4_187) rfl rfl rfl (by decide +kernel) ⟨Nat.le_of_ble_eq_true rfl, Nat.le_of_ble_eq_true rfl⟩) (lw_Rq (ci := 6) (q := (RX6, TX6, 42)) (q0 := 0) rfl rfl gU_c (fun _ _ _ => trivial) hK hp hP hD) rfl rfl hl.1 rfl (lv_room (Nat.le_of_ble_eq_true rfl)) dL_law_863 ⟨by show cells + 8 + 0 ≤ 650651; omega, by show slots + 64 + 0 ≤ 7144151; omega⟩) hp (pe_m _ _ _ _ _) hP hD hS hA (fun H locs hP hD hS => ?_)
  refine lv_iload hx hb dL_law_866 (lv_at hl 0 rfl) ?_
  refine lv_icmp_eq (tgt := 873) hx hb dL_law_868 (by decide) (fun h9 => ?_) (fun h9 => absurd r1 h9)
  refine lv_goto (tgt := 1881) hx hb dL_law_873 (by decide) ?_
  exact kk _ _ _ _ H locs ls r3 hP hD hS (lv_sub hl [1, 2, 3, 4, 5] rfl)
end KO
