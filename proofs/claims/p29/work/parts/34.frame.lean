-- contracts over a larger world; calls on the left or right part of a world
theorem A_sub {wc wW : va_W} {sz : Nat} {isC : List Nat} (hC : isC.map (fun i => wW[i]?) = wc.map some) : ∀ q, va_A wc sz q → va_A wW sz q := by
  intro q h
  rcases h with ⟨k, e, h⟩ | h
  · have h1 : (isC.map (fun i => wW[i]?))[k]? = some (some (q, e)) := by rw [hC, List.getElem?_map, h]; rfl
    rw [List.getElem?_map] at h1
    obtain ⟨i, hi, h2⟩ := Option.map_eq_some_iff.mp h1
    exact Or.inl ⟨i, e, h2⟩
  · exact Or.inr h
theorem gZ_nar {A1 A2 : Nat → Prop} {U : State} (hA : ∀ q, A1 q → A2 q) (h : gZ A2 U) : gZ A1 U := ⟨vx_Zq.narrow h.1 hA, vx_Zq.narrow h.2 hA⟩
theorem gT_nar {A1 A2 : Nat → Prop} {U : State} (hA : ∀ q, A1 q → A2 q) (h : gT A2 U) : gT A1 U := ⟨h.1, h.2.1, gZ_nar hA h.2.2⟩
section FR
variable {l : Launch} {y : MethodName} {ws : List Cond} {rm : Room} {av : List Value} {D : va_G} {wc wq wW w2 : va_W} {tys : List (ClassId × FieldType)} {sz mc ms : Nat} {G1 G2 : State → Prop}
theorem met_frI {rv : Int32} (h : Met l y ws rm (va_Pc av (gP D wc tys sz G1)) (va_Qi (fun r (_ : Unit) => r = rv) (fun _ t => gB D (va_A wc sz) wq tys t) (va_A wc sz)) mc ms (va_A wc sz)) (hG : ∀ U, G2 U → G1 U) (isC isR pm : List Nat) (hC : isC.map (fun i => wW[i]?) = wc.map some) (hR : isR.map (fun i => wW[i]?) = (isR.filterMap (fun i => wW[i]?)).map some) (hnC : va_nd isC = true) (hn : va_nd isR = true) (hdis : ∀ i ∈ isR, i ∉ isC) (hn2 : va_nd pm = true) (h2 : pm.map (fun i => ((isR.filterMap (fun i => wW[i]?)) ++ wq)[i]?) = w2.map some) :
    Met l y ws rm (va_Pc av (gP D wW tys sz G2)) (va_Qi (fun r (_ : Unit) => r = rv) (fun _ t => gB D (va_A wW sz) w2 tys t) (va_A wW sz)) mc ms (va_A wW sz) := by
  intro p e ha hc hk s m args below hf happ hP hK
  obtain ⟨rfl, hsz, hPw, hKw, hDw, hGw⟩ := hP
  obtain ⟨n, o, h1, h2a, h3, ⟨⟨⟨r, u, e1, e2, hB⟩, hF⟩, L, hL1, hL2⟩⟩ := h p e ha hc hk s m _ below hf happ ⟨rfl, hsz, hPw.sub isC (hh_fm hC), hKw, (hDw.sub isC hnC hC).weaken (fun _ _ _ _ => trivial), hG _ hGw⟩ trivial
  subst hsz
  obtain ⟨hP1, hK1, hD1⟩ := hB
  obtain ⟨hP2, hD2⟩ := va_join (A0 := va_A wW s.heap.size) (wr := (isR.filterMap (fun i => wW[i]?))) (w1 := wq) hPw hDw.self isC isR hC hR hn hdis (fun q hq hnq => hF.2 q hq hnq) (A_sub hC) hP1 hD1
  exact ⟨n, o, h1, h2a, h3, ⟨⟨⟨r, u, e1, e2, hP2.sub pm (hh_fm h2), hK1, hD2.sub pm hn2 h2⟩, ⟨hF.1, fun q hq hnq => hF.2 q hq (fun z => hnq (A_sub hC q z))⟩⟩, L, hL1, fun q hq => A_sub hC _ (hL2 q hq)⟩⟩
theorem met_frL {rv : Int64} (h : Met l y ws rm (va_Pc av (gP D wc tys sz G1)) (va_Ql (fun r (_ : Unit) => r = rv) (fun _ t => gB D (va_A wc sz) wq tys t) (va_A wc sz)) mc ms (va_A wc sz)) (hG : ∀ U, G2 U → G1 U) (isC isR pm : List Nat) (hC : isC.map (fun i => wW[i]?) = wc.map some) (hR : isR.map (fun i => wW[i]?) = (isR.filterMap (fun i => wW[i]?)).map some) (hnC : va_nd isC = true) (hn : va_nd isR = true) (hdis : ∀ i ∈ isR, i ∉ isC) (hn2 : va_nd pm = true) (h2 : pm.map (fun i => ((isR.filterMap (fun i => wW[i]?)) ++ wq)[i]?) = w2.map some) :
    Met l y ws rm (va_Pc av (gP D wW tys sz G2)) (va_Ql (fun r (_ : Unit) => r = rv) (fun _ t => gB D (va_A wW sz) w2 tys t) (va_A wW sz)) mc ms (va_A wW sz) := by
  intro p e ha hc hk s m args below hf happ hP hK
  obtain ⟨rfl, hsz, hPw, hKw, hDw, hGw⟩ := hP
  obtain ⟨n, o, h1, h2a, h3, ⟨⟨⟨r, u, e1, e2, hB⟩, hF⟩, L, hL1, hL2⟩⟩ := h p e ha hc hk s m _ below hf happ ⟨rfl, hsz, hPw.sub isC (hh_fm hC), hKw, (hDw.sub isC hnC hC).weaken (fun _ _ _ _ => trivial), hG _ hGw⟩ trivial
  subst hsz
  obtain ⟨hP1, hK1, hD1⟩ := hB
  obtain ⟨hP2, hD2⟩ := va_join (A0 := va_A wW s.heap.size) (wr := (isR.filterMap (fun i => wW[i]?))) (w1 := wq) hPw hDw.self isC isR hC hR hn hdis (fun q hq hnq => hF.2 q hq hnq) (A_sub hC) hP1 hD1
  exact ⟨n, o, h1, h2a, h3, ⟨⟨⟨r, u, e1, e2, hP2.sub pm (hh_fm h2), hK1, hD2.sub pm hn2 h2⟩, ⟨hF.1, fun q hq hnq => hF.2 q hq (fun z => hnq (A_sub hC q z))⟩⟩, L, hL1, fun q hq => A_sub hC _ (hL2 q hq)⟩⟩
theorem met_frV (h : Met l y ws rm (va_Pc av (gP D wc tys sz G1)) (va_Qv (fun (_ : Unit) => True) (fun _ t => gB D (va_A wc sz) wq tys t) (va_A wc sz)) mc ms (va_A wc sz)) (hG : ∀ U, G2 U → G1 U) (isC isR pm : List Nat) (hC : isC.map (fun i => wW[i]?) = wc.map some) (hR : isR.map (fun i => wW[i]?) = (isR.filterMap (fun i => wW[i]?)).map some) (hnC : va_nd isC = true) (hn : va_nd isR = true) (hdis : ∀ i ∈ isR, i ∉ isC) (hn2 : va_nd pm = true) (h2 : pm.map (fun i => ((isR.filterMap (fun i => wW[i]?)) ++ wq)[i]?) = w2.map some) :
    Met l y ws rm (va_Pc av (gP D wW tys sz G2)) (va_Qv (fun (_ : Unit) => True) (fun _ t => gB D (va_A wW sz) w2 tys t) (va_A wW sz)) mc ms (va_A wW sz) := by
  intro p e ha hc hk s m args below hf happ hP hK
  obtain ⟨rfl, hsz, hPw, hKw, hDw, hGw⟩ := hP
  obtain ⟨n, o, h1, h2a, h3, ⟨⟨⟨u, e1, e2, hB⟩, hF⟩, L, hL1, hL2⟩⟩ := h p e ha hc hk s m _ below hf happ ⟨rfl, hsz, hPw.sub isC (hh_fm hC), hKw, (hDw.sub isC hnC hC).weaken (fun _ _ _ _ => trivial), hG _ hGw⟩ trivial
  subst hsz
  obtain ⟨hP1, hK1, hD1⟩ := hB
  obtain ⟨hP2, hD2⟩ := va_join (A0 := va_A wW s.heap.size) (wr := (isR.filterMap (fun i => wW[i]?))) (w1 := wq) hPw hDw.self isC isR hC hR hn hdis (fun q hq hnq => hF.2 q hq hnq) (A_sub hC) hP1 hD1
  exact ⟨n, o, h1, h2a, h3, ⟨⟨⟨u, e1, e2, hP2.sub pm (hh_fm h2), hK1, hD2.sub pm hn2 h2⟩, ⟨hF.1, fun q hq hnq => hF.2 q hq (fun z => hnq (A_sub hC q z))⟩⟩, L, hL1, fun q hq => A_sub hC _ (hL2 q hq)⟩⟩
end FR
section AP
variable {D : va_G} {wl wr wq : va_W} {A0 : Nat → Prop} {H H1 : Heap}
theorem ap_L (hP : va_P D vwCl (wl ++ wr) H) : va_P D vwCl wl H := fun k q hk => hP k q (by rw [List.getElem?_append_left (List.getElem?_eq_some_iff.mp hk).1]; exact hk)
theorem ap_R (hP : va_P D vwCl (wl ++ wr) H) : va_P D vwCl wr H := fun k q hk => hP (wl.length + k) q (by rw [List.getElem?_append_right (Nat.le_add_right _ _), Nat.add_sub_cancel_left]; exact hk)
theorem ap_DL (hD : va_D A0 (wl ++ wr)) : va_D A0 wl := ⟨fun i j p q hi hj he => hD.1 i j p q (by rw [List.getElem?_append_left (List.getElem?_eq_some_iff.mp hi).1]; exact hi) (by rw [List.getElem?_append_left (List.getElem?_eq_some_iff.mp hj).1]; exact hj) he, fun k q hk => hD.2 k q (by rw [List.getElem?_append_left (List.getElem?_eq_some_iff.mp hk).1]; exact hk)⟩
theorem ap_DR (hD : va_D A0 (wl ++ wr)) : va_D A0 wr := ⟨fun i j p q hi hj he => by
    have := hD.1 (wl.length + i) (wl.length + j) p q (by rw [List.getElem?_append_right (Nat.le_add_right _ _), Nat.add_sub_cancel_left]; exact hi) (by rw [List.getElem?_append_right (Nat.le_add_right _ _), Nat.add_sub_cancel_left]; exact hj) he
    omega, fun k q hk => hD.2 (wl.length + k) q (by rw [List.getElem?_append_right (Nat.le_add_right _ _), Nat.add_sub_cancel_left]; exact hk)⟩
theorem ap_ne (hD : va_D A0 (wl ++ wr)) {i j : Nat} {p q : Nat × va_E} (hi : wl[i]? = some p) (hj : wr[j]? = some q) : p.1 ≠ q.1 := by
  intro he
  have hl := (List.getElem?_eq_some_iff.mp hi).1
  have := hD.1 i (wl.length + j) p q (by rw [List.getElem?_append_left hl]; exact hi) (by rw [List.getElem?_append_right (Nat.le_add_right _ _), Nat.add_sub_cancel_left]; exact hj) he
  omega
theorem ap_A {w : va_W} {sz : Nat} {q : Nat} (h : va_A w sz q) (hD : va_D A0 w) (hS : ∀ q, sz ≤ q → A0 q) : A0 q := by
  rcases h with ⟨k, e, h⟩ | h
  · exact hD.2 k (q, e) h
  · exact hS q h
/-- behind a call on the left part -/
theorem ap_joinL (hP : va_P D vwCl (wl ++ wr) H) (hD : va_D A0 (wl ++ wr)) (hS : ∀ q, H.size ≤ q → A0 q) (hk : ∀ q : Nat, q < H.size → ¬ va_A wl H.size q → H1[q]? = H[q]?) (hP1 : va_P D vwCl wq H1) (hD1 : va_D (va_A wl H.size) wq) : va_P D vwCl (wq ++ wr) H1 ∧ va_D A0 (wq ++ wr) := by
  have hlt : ∀ (k : Nat) (q : Nat × va_E), wr[k]? = some q → q.1 < H.size := fun k q h => vx_lt (ap_R hP) h
  have hne : ∀ (j : Nat) (q : Nat × va_E), wr[j]? = some q → ¬ va_A wl H.size q.1 := by
    intro j q hj h
    rcases h with ⟨i, e, hi⟩ | h
    · exact ap_ne hD hi hj rfl
    · exact absurd (hlt j q hj) (by omega)
  have hPr : va_P D vwCl wr H1 := (ap_R hP).kept (fun k q h => hk q.1 (hlt k q h) (hne k q h))
  refine ⟨fun k q h => ?_, ?_⟩
  · rcases Nat.lt_or_ge k wq.length with c | c
    · rw [List.getElem?_append_left c] at h; exact hP1 k q h
    · rw [List.getElem?_append_right c] at h; exact hPr _ q h
  · exact va_D.app (hD1.weaken (fun k q h1 h2 => ap_A h2 (ap_DL hD) hS)) (ap_DR hD) (fun i j p q hi hj he => hne j q hj (by rw [← he]; exact hD1.2 i p hi))
/-- behind a call on the right part -/
theorem ap_joinR (hP : va_P D vwCl (wl ++ wr) H) (hD : va_D A0 (wl ++ wr)) (hS : ∀ q, H.size ≤ q → A0 q) (hk : ∀ q : Nat, q < H.size → ¬ va_A wr H.size q → H1[q]? = H[q]?) (hP1 : va_P D vwCl wq H1) (hD1 : va_D (va_A wr H.size) wq) : va_P D vwCl (wl ++ wq) H1 ∧ va_D A0 (wl ++ wq) := by
  have hlt : ∀ (k : Nat) (q : Nat × va_E), wl[k]? = some q → q.1 < H.size := fun k q h => vx_lt (ap_L hP) h
  have hne : ∀ (j : Nat) (q : Nat × va_E), wl[j]? = some q → ¬ va_A wr H.size q.1 := by
    intro j q hj h
    rcases h with ⟨i, e, hi⟩ | h
    · exact ap_ne hD hj hi rfl
    · exact absurd (hlt j q hj) (by omega)
  have hPl : va_P D vwCl wl H1 := (ap_L hP).kept (fun k q h => hk q.1 (hlt k q h) (hne k q h))
  refine ⟨fun k q h => ?_, ?_⟩
  · rcases Nat.lt_or_ge k wl.length with c | c
    · rw [List.getElem?_append_left c] at h; exact hPl k q h
    · rw [List.getElem?_append_right c] at h; exact hP1 _ q h
  · exact va_D.app (ap_DL hD) (hD1.weaken (fun k q h1 h2 => ap_A h2 (ap_DR hD) hS)) (fun i j p q hi hj he => hne i p hi (by rw [he]; exact hD1.2 j q hj))
end AP
section LW
variable {p : Program} {l : Launch} {e : Env} {R : Room} {s : State} {m : MethodId} {args : Array Value} {below : List Frame} {meth : Method} {c : Code} {H : Heap} {locs : List Loc} {cells slots mc ms : Nat} {Q : State → Prop} {cc : ByteArray} {pc : Nat} {ls : Array Slot} {rest st0 As : List Value}
variable {D : va_G} {wl wr wq : va_W} {tys : List (ClassId × FieldType)} {A0 : Nat → Prop} {H0 : Heap} {G : State → Prop} {X9 : Array Value}
theorem lw_pL (hG1 : ∀ (U : State) (g : JFrame) (mk : MethodId) (a : Array Value), G U → G (U.calling g mk a)) (hG2 : ∀ U : State, U.heap = H → s.WarmedH U.vm → G U) (hK : va_K D vwCl tys s) (hP : va_P D vwCl (wl ++ wr) H) (hD : va_D A0 (wl ++ wr)) : PreS s H (va_Pc As (gP D wl tys H.size G)) As :=
  ⟨hh_blind hG1, fun U hU hW => ⟨rfl, by rw [hU], by rw [hU]; exact ap_L hP, va_K.moved hW.alike hK, (ap_DL hD).weaken (fun _ _ _ _ => trivial), hG2 U hU hW⟩⟩
theorem lw_pR {b q0 ci : Nat} {q : vw_C} {fs : List Value} (hc : vwCl[ci]? = some q) (he : wr[q0]? = some (b, .inr (ci, fs))) (hG1 : ∀ (U : State) (g : JFrame) (mk : MethodId) (a : Array Value), G U → G (U.calling g mk a)) (hG2 : ∀ U : State, U.heap = H → s.WarmedH U.vm → G U) (hK : va_K D vwCl tys s) (hP : va_P D vwCl (wl ++ wr) H) (hD : va_D A0 (wl ++ wr)) : PreV s H q.1 b (va_Pc (.ref b :: As) (gP D wr tys H.size G)) As :=
  ⟨hh_blind hG1, va_recv hK (ap_R hP) hc he, fun U hU hW => ⟨rfl, by rw [hU], by rw [hU]; exact ap_R hP, va_K.moved hW.alike hK, (ap_DR hD).weaken (fun _ _ _ _ => trivial), hG2 U hU hW⟩⟩
theorem lw_Li {rv : Int32} (hr : va_Run p l e R s m args below meth c H locs cells slots mc ms (F0 m pc ls st0) rest (va_Qi (fun r (_ : Unit) => r = rv) (fun _ t => gB D (va_A wl H.size) wq tys t) (va_A wl H.size) X9) (va_A wl H.size)) (hP : va_P D vwCl (wl ++ wr) H) (hD : va_D A0 (wl ++ wr)) (hS : va_S A0 H0 H locs) (hA : ∀ q, H0.size ≤ q → A0 q)
    (kk : ∀ (H1 : Heap) (locs1 : List Loc), va_P D vwCl (wq ++ wr) H1 → va_D A0 (wq ++ wr) → va_S A0 H0 H1 locs1 → W p l e R s m args below meth c H1 locs1 (cells + mc) (slots + ms) Q (F0 m (pc + 3) ls (.int rv :: rest))) : W p l e R s m args below meth c H locs cells slots Q (F0 m pc ls st0) := by
  have hA2 : ∀ q, H.size ≤ q → A0 q := fun q h => hA q (Nat.le_trans hS.1 h)
  have hFc : ∀ q, va_A wl H.size q → A0 q := fun q h => ap_A h (ap_DL hD) hA2
  refine va_calli hr hS (fun q _ h => hFc q h) hFc (fun r u t H1 locs1 ht hvm hw hB hz1 hk1 hS => ?_)
  obtain ⟨hP1, hK1, hD1⟩ := hB
  rw [ht] at hP1
  obtain ⟨hP2, hD2⟩ := ap_joinL hP hD hA2 hk1 hP1 hD1
  rw [show r = rv from hw]
  exact kk H1 locs1 hP2 hD2 hS
theorem lw_Ri {rv : Int32} (hr : va_Run p l e R s m args below meth c H locs cells slots mc ms (F0 m pc ls st0) rest (va_Qi (fun r (_ : Unit) => r = rv) (fun _ t => gB D (va_A wr H.size) wq tys t) (va_A wr H.size) X9) (va_A wr H.size)) (hP : va_P D vwCl (wl ++ wr) H) (hD : va_D A0 (wl ++ wr)) (hS : va_S A0 H0 H locs) (hA : ∀ q, H0.size ≤ q → A0 q)
    (kk : ∀ (H1 : Heap) (locs1 : List Loc), va_P D vwCl (wl ++ wq) H1 → va_D A0 (wl ++ wq) → va_S A0 H0 H1 locs1 → W p l e R s m args below meth c H1 locs1 (cells + mc) (slots + ms) Q (F0 m (pc + 3) ls (.int rv :: rest))) : W p l e R s m args below meth c H locs cells slots Q (F0 m pc ls st0) := by
  have hA2 : ∀ q, H.size ≤ q → A0 q := fun q h => hA q (Nat.le_trans hS.1 h)
  have hFc : ∀ q, va_A wr H.size q → A0 q := fun q h => ap_A h (ap_DR hD) hA2
  refine va_calli hr hS (fun q _ h => hFc q h) hFc (fun r u t H1 locs1 ht hvm hw hB hz1 hk1 hS => ?_)
  obtain ⟨hP1, hK1, hD1⟩ := hB
  rw [ht] at hP1
  obtain ⟨hP2, hD2⟩ := ap_joinR hP hD hA2 hk1 hP1 hD1
  rw [show r = rv from hw]
  exact kk H1 locs1 hP2 hD2 hS
theorem lw_Rl {rv : Int64} (hr : va_Run p l e R s m args below meth c H locs cells slots mc ms (F0 m pc ls st0) rest (va_Ql (fun r (_ : Unit) => r = rv) (fun _ t => gB D (va_A wr H.size) wq tys t) (va_A wr H.size) X9) (va_A wr H.size)) (hP : va_P D vwCl (wl ++ wr) H) (hD : va_D A0 (wl ++ wr)) (hS : va_S A0 H0 H locs) (hA : ∀ q, H0.size ≤ q → A0 q)
    (kk : ∀ (H1 : Heap) (locs1 : List Loc), va_P D vwCl (wl ++ wq) H1 → va_D A0 (wl ++ wq) → va_S A0 H0 H1 locs1 → W p l e R s m args below meth c H1 locs1 (cells + mc) (slots + ms) Q (F0 m (pc + 3) ls (.long rv :: rest))) : W p l e R s m args below meth c H locs cells slots Q (F0 m pc ls st0) := by
  have hA2 : ∀ q, H.size ≤ q → A0 q := fun q h => hA q (Nat.le_trans hS.1 h)
  have hFc : ∀ q, va_A wr H.size q → A0 q := fun q h => ap_A h (ap_DR hD) hA2
  refine va_calll hr hS (fun q _ h => hFc q h) hFc (fun r u t H1 locs1 ht hvm hw hB hz1 hk1 hS => ?_)
  obtain ⟨hP1, hK1, hD1⟩ := hB
  rw [ht] at hP1
  obtain ⟨hP2, hD2⟩ := ap_joinR hP hD hA2 hk1 hP1 hD1
  rw [show r = rv from hw]
  exact kk H1 locs1 hP2 hD2 hS
theorem lw_Rv (hr : va_Run p l e R s m args below meth c H locs cells slots mc ms (F0 m pc ls st0) rest (va_Qv (fun (_ : Unit) => True) (fun _ t => gB D (va_A wr H.size) wq tys t) (va_A wr H.size) X9) (va_A wr H.size)) (hP : va_P D vwCl (wl ++ wr) H) (hD : va_D A0 (wl ++ wr)) (hS : va_S A0 H0 H locs) (hA : ∀ q, H0.size ≤ q → A0 q)
    (kk : ∀ (H1 : Heap) (locs1 : List Loc), va_P D vwCl (wl ++ wq) H1 → va_D A0 (wl ++ wq) → va_S A0 H0 H1 locs1 → W p l e R s m args below meth c H1 locs1 (cells + mc) (slots + ms) Q (F0 m (pc + 3) ls rest)) : W p l e R s m args below meth c H locs cells slots Q (F0 m pc ls st0) := by
  have hA2 : ∀ q, H.size ≤ q → A0 q := fun q h => hA q (Nat.le_trans hS.1 h)
  have hFc : ∀ q, va_A wr H.size q → A0 q := fun q h => ap_A h (ap_DR hD) hA2
  refine va_callv hr hS (fun q _ h => hFc q h) hFc (fun u t H1 locs1 ht hvm hw hB hz1 hk1 hS => ?_)
  obtain ⟨hP1, hK1, hD1⟩ := hB
  rw [ht] at hP1
  obtain ⟨hP2, hD2⟩ := ap_joinR hP hD hA2 hk1 hP1 hD1
  exact kk H1 locs1 hP2 hD2 hS
end LW
