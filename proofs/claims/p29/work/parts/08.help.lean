-- helper rows: names for a post, comparisons of longs, calls with their frame in one row, worlds in short words
section HH
variable {p : Program} {l : Launch} {e : Env} {R : Room} {s : State} {m : MethodId} {args : Array Value} {below : List Frame} {meth : Method} {c : Code} {H : Heap} {locs : List Loc} {cells slots : Nat} {Q : State → Prop} {cc : ByteArray} {pc : Nat} {ls : Array Slot} {rest st0 : List Value}
theorem hh_name {g : JFrame} (k : ∀ Q9, Q9 = Q → W p l e R s m args below meth c H locs cells slots Q9 g) : W p l e R s m args below meth c H locs cells slots Q g := k Q rfl
theorem hh_seti {x y : Int32} (h : y = x) (k : W p l e R s m args below meth c H locs cells slots Q (F0 m pc ls (.int y :: rest))) : W p l e R s m args below meth c H locs cells slots Q (F0 m pc ls (.int x :: rest)) := by subst h; exact k
theorem hh_setl {x y : Int64} (h : y = x) (k : W p l e R s m args below meth c H locs cells slots Q (F0 m pc ls (.long y :: rest))) : W p l e R s m args below meth c H locs cells slots Q (F0 m pc ls (.long x :: rest)) := by subst h; exact k
theorem hh_setv {x y : Value} (h : x = y) (k : W p l e R s m args below meth c H locs cells slots Q (F0 m pc ls (y :: rest))) : W p l e R s m args below meth c H locs cells slots Q (F0 m pc ls (x :: rest)) := by subst h; exact k
theorem hh_ceq (hx : p.tables.exec = Jvm.exec) (hb : c.code = cc) {x y : Int64} {off : Int} {tgt : Nat} (d1 : decode cc pc = .ok (.lcmp, 1)) (d2 : decode cc (pc + 1) = .ok (.ifCond .eq off, 3)) (ht : ((pc + 1 : Nat) : Int) + off = (tgt : Int))
    (kt : x = y → W p l e R s m args below meth c H locs cells slots Q (F0 m tgt ls rest)) (kf : ¬ x = y → W p l e R s m args below meth c H locs cells slots Q (F0 m (pc + 4) ls rest)) : W p l e R s m args below meth c H locs cells slots Q (F0 m pc ls (.long y :: .long x :: rest)) :=
  W.lcmp hx hb d1 (lv_if_eq hx hb d2 ht (fun h => kt ((lg_cmp_eq x y).mp h)) (fun h => kf (fun q => h ((lg_cmp_eq x y).mpr q))))
theorem hh_cne (hx : p.tables.exec = Jvm.exec) (hb : c.code = cc) {x y : Int64} {off : Int} {tgt : Nat} (d1 : decode cc pc = .ok (.lcmp, 1)) (d2 : decode cc (pc + 1) = .ok (.ifCond .ne off, 3)) (ht : ((pc + 1 : Nat) : Int) + off = (tgt : Int))
    (kt : ¬ x = y → W p l e R s m args below meth c H locs cells slots Q (F0 m tgt ls rest)) (kf : x = y → W p l e R s m args below meth c H locs cells slots Q (F0 m (pc + 4) ls rest)) : W p l e R s m args below meth c H locs cells slots Q (F0 m pc ls (.long y :: .long x :: rest)) :=
  W.lcmp hx hb d1 (lv_if_ne hx hb d2 ht (fun h => kt (fun q => h ((lg_cmp_eq x y).mpr q))) (fun h => kf ((lg_cmp_eq x y).mp h)))
theorem hh_clt (hx : p.tables.exec = Jvm.exec) (hb : c.code = cc) {x y : Int64} {off : Int} {tgt : Nat} (d1 : decode cc pc = .ok (.lcmp, 1)) (d2 : decode cc (pc + 1) = .ok (.ifCond .lt off, 3)) (ht : ((pc + 1 : Nat) : Int) + off = (tgt : Int))
    (kt : x < y → W p l e R s m args below meth c H locs cells slots Q (F0 m tgt ls rest)) (kf : ¬ x < y → W p l e R s m args below meth c H locs cells slots Q (F0 m (pc + 4) ls rest)) : W p l e R s m args below meth c H locs cells slots Q (F0 m pc ls (.long y :: .long x :: rest)) :=
  W.lcmp hx hb d1 (lv_if_lt hx hb d2 ht (fun h => kt ((lg_cmp_lt x y).mp h)) (fun h => kf (fun q => h ((lg_cmp_lt x y).mpr q))))
theorem hh_cge (hx : p.tables.exec = Jvm.exec) (hb : c.code = cc) {x y : Int64} {off : Int} {tgt : Nat} (d1 : decode cc pc = .ok (.lcmp, 1)) (d2 : decode cc (pc + 1) = .ok (.ifCond .ge off, 3)) (ht : ((pc + 1 : Nat) : Int) + off = (tgt : Int))
    (kt : y ≤ x → W p l e R s m args below meth c H locs cells slots Q (F0 m tgt ls rest)) (kf : ¬ y ≤ x → W p l e R s m args below meth c H locs cells slots Q (F0 m (pc + 4) ls rest)) : W p l e R s m args below meth c H locs cells slots Q (F0 m pc ls (.long y :: .long x :: rest)) :=
  W.lcmp hx hb d1 (lv_if_ge hx hb d2 ht (fun h => kt ((lg_cmp_ge x y).mp h)) (fun h => kf (fun q => h ((lg_cmp_ge x y).mpr q))))
theorem hh_cgt (hx : p.tables.exec = Jvm.exec) (hb : c.code = cc) {x y : Int64} {off : Int} {tgt : Nat} (d1 : decode cc pc = .ok (.lcmp, 1)) (d2 : decode cc (pc + 1) = .ok (.ifCond .gt off, 3)) (ht : ((pc + 1 : Nat) : Int) + off = (tgt : Int))
    (kt : y < x → W p l e R s m args below meth c H locs cells slots Q (F0 m tgt ls rest)) (kf : ¬ y < x → W p l e R s m args below meth c H locs cells slots Q (F0 m (pc + 4) ls rest)) : W p l e R s m args below meth c H locs cells slots Q (F0 m pc ls (.long y :: .long x :: rest)) :=
  W.lcmp hx hb d1 (lv_if_gt hx hb d2 ht (fun h => kt ((lg_cmp_gt x y).mp h)) (fun h => kf (fun q => h ((lg_cmp_gt x y).mpr q))))
theorem hh_cle (hx : p.tables.exec = Jvm.exec) (hb : c.code = cc) {x y : Int64} {off : Int} {tgt : Nat} (d1 : decode cc pc = .ok (.lcmp, 1)) (d2 : decode cc (pc + 1) = .ok (.ifCond .le off, 3)) (ht : ((pc + 1 : Nat) : Int) + off = (tgt : Int))
    (kt : x ≤ y → W p l e R s m args below meth c H locs cells slots Q (F0 m tgt ls rest)) (kf : ¬ x ≤ y → W p l e R s m args below meth c H locs cells slots Q (F0 m (pc + 4) ls rest)) : W p l e R s m args below meth c H locs cells slots Q (F0 m pc ls (.long y :: .long x :: rest)) :=
  W.lcmp hx hb d1 (lv_if_le hx hb d2 ht (fun h => kt ((lg_cmp_le x y).mp h)) (fun h => kf (fun q => h ((lg_cmp_le x y).mpr q))))
end HH
abbrev zX0 (h : Nat) (p i d low high guard share held : Int32) (sp ig su : Int64) (pl : Nat) (le lr : Int64) (go : Int32) : Nat × va_E := (h, .inr (0, [.int p, .int i, .int d, .int low, .int high, .int guard, .int share, .int held, .long sp, .long ig, .long su, .ref pl, .long le, .long lr, .int go]))
abbrev zX1 (h : Nat) (pl ct sc re : Nat) (mo : Int32) (ha : Int64) (fo ma st : Int32) (ou : Int64) : Nat × va_E := (h, .inr (1, [.ref pl, .ref ct, .ref sc, .ref re, .int mo, .long ha, .int fo, .int ma, .int st, .long ou]))
abbrev zX2 (h : Nat) (a1 a2 b dt ld : Int32) (me mb : Int64) (ou : Nat) (lt : Int32) : Nat × va_E := (h, .inr (2, [.int a1, .int a2, .int b, .int dt, .int ld, .long me, .long mb, .ref ou, .int lt]))
abbrev zX3 (h : Nat) (pr pe : Int32) (sw ce : Int64) (he ba up sa ri se : Int32) (gr le : Int64) : Nat × va_E := (h, .inr (3, [.int pr, .int pe, .long sw, .long ce, .int he, .int ba, .int up, .int sa, .int ri, .int se, .long gr, .long le]))
abbrev zX4 (h : Nat) (n : Int32) (me ps is ds : Nat) : Nat × va_E := (h, .inr (4, [.int n, .ref me, .ref ps, .ref is, .ref ds]))
abbrev zX5 (h : Nat) (lo : Nat) (n : Int32) : Nat × va_E := (h, .inr (5, [.ref lo, .int n]))
abbrev zAI (cI : ClassId) (h n : Nat) (f : Nat → Int32) : Nat × va_E := (h, .inl (cI, n, .inl f))
abbrev zAJ (cJ : ClassId) (h n : Nat) (f : Nat → Int64) : Nat × va_E := (h, .inl (cJ, n, .inr (.inl f)))
abbrev zAL (cO : ClassId) (h n : Nat) (f : Nat → Option Nat) : Nat × va_E := (h, .inl (cO, n, .inr (.inr (.inr (.inr f)))))
abbrev tyG (cI cJ cZ cO : ClassId) : List (ClassId × FieldType) := [(cI, .int), (cJ, .long), (cZ, .byte), (cO, .object RX1)]
def gP (D : va_G) (wp : va_W) (tys : List (ClassId × FieldType)) (sz : Nat) (G : State → Prop) (U : State) : Prop := U.heap.size = sz ∧ va_P D vwCl wp U.heap ∧ va_K D vwCl tys U ∧ va_D (fun _ => True) wp ∧ G U
def gB (D : va_G) (A : Nat → Prop) (w : va_W) (tys : List (ClassId × FieldType)) (t : State) : Prop := va_P D vwCl w t.heap ∧ va_K D vwCl tys t ∧ va_D A w
-- words beside the good ones: nest links; what a throw and its catching want
def gN (U : State) : Prop := va_Nw (.methodLinkNest RX5 15 yX1_init "ControlBench") U ∧ va_Nw (.methodLinkNest RX1 11 yX0_init "ControlBench") U ∧ va_Nw (.methodLinkNest RX1 25 yX4_init "ControlBench") U ∧ va_Nw (.methodLinkNest RX1 32 yX3_init "ControlBench") U ∧ va_Nw (.methodLinkNest RX0 25 yX2_init "ControlBench") U ∧ va_Nw (.methodLinkNest RX0 43 yX5_hold "ControlBench") U ∧ va_Nw (.methodLinkNest RX2 57 yX5_hold "ControlBench") U
theorem gN_w {s U : State} (hW : s.WarmedH U.vm) (h : gN s) : gN U := ⟨va_Nw.warmM hW h.1, va_Nw.warmM hW h.2.1, va_Nw.warmM hW h.2.2.1, va_Nw.warmM hW h.2.2.2.1, va_Nw.warmM hW h.2.2.2.2.1, va_Nw.warmM hW h.2.2.2.2.2.1, va_Nw.warmM hW h.2.2.2.2.2.2⟩
theorem gN_c (U : State) (g : JFrame) (mk : MethodId) (a : Array Value) (h : gN U) : gN (U.calling g mk a) := ⟨va_Nw.same rfl rfl h.1, va_Nw.same rfl rfl h.2.1, va_Nw.same rfl rfl h.2.2.1, va_Nw.same rfl rfl h.2.2.2.1, va_Nw.same rfl rfl h.2.2.2.2.1, va_Nw.same rfl rfl h.2.2.2.2.2.1, va_Nw.same rfl rfl h.2.2.2.2.2.2⟩
def gU (_ : State) : Prop := True
theorem gU_c (U : State) (g : JFrame) (mk : MethodId) (a : Array Value) (h : gU U) : gU (U.calling g mk a) := trivial
theorem hh_blind {av : List Value} {D : va_G} {wp : va_W} {tys : List (ClassId × FieldType)} {sz : Nat} {G : State → Prop} (hG : ∀ (U : State) (g : JFrame) (mk : MethodId) (a : Array Value), G U → G (U.calling g mk a)) : FrameBlind (va_Pc av (gP D wp tys sz G)) := fun a U g mk q => by
  obtain ⟨q0, q1, qP, qK, qD, qG⟩ := q
  exact ⟨q0, q1, qP, va_K.moved (u := U) (U := U.calling g mk a) (Vm.Alike.refl U.vm) qK, qD, hG U g mk a qG⟩
theorem hh_fm {α β : Type} {f : α → Option β} : ∀ {is : List α} {ws : List β}, is.map f = ws.map some → is.filterMap f = ws := by
  intro is
  induction is with
  | nil => intro ws h; cases ws with | nil => rfl | cons a b => cases h
  | cons i is ih =>
    intro ws h
    cases ws with
    | nil => cases h
    | cons a b =>
      rw [List.map_cons, List.map_cons] at h
      injection h with h1 h2
      rw [List.filterMap_cons_some h1, ih h2]
section HC
variable {p : Program} {l : Launch} {e : Env} {R : Room} {s : State} {m : MethodId} {args : Array Value} {below : List Frame} {meth : Method} {c : Code} {H : Heap} {locs : List Loc} {cells slots mc ms : Nat} {Q : State → Prop} {cc : ByteArray} {pc : Nat} {ls : Array Slot} {rest st0 As : List Value}
variable {D : va_G} {wW wc wq w2 : va_W} {tys : List (ClassId × FieldType)} {A0 : Nat → Prop} {H0 : Heap} {G : State → Prop} {X9 : Array Value}
theorem hh_pS (hG1 : ∀ (U : State) (g : JFrame) (mk : MethodId) (a : Array Value), G U → G (U.calling g mk a)) (hG2 : ∀ U : State, U.heap = H → s.WarmedH U.vm → G U) (hK : va_K D vwCl tys s) (hP : va_P D vwCl wW H) (hD : va_D A0 wW) (isC : List Nat) (hC : isC.map (fun i => wW[i]?) = wc.map some) (hn : va_nd isC = true) : PreS s H (va_Pc As (gP D wc tys H.size G)) As :=
  ⟨hh_blind hG1, fun U hU hW => ⟨rfl, by rw [hU], by rw [hU]; exact hP.sub isC (hh_fm hC), va_K.moved hW.alike hK, (hD.sub isC hn hC).weaken (fun _ _ _ _ => trivial), hG2 U hU hW⟩⟩
theorem hh_pV {b q0 ci : Nat} {q : vw_C} {fs : List Value} (hc : vwCl[ci]? = some q) (he : wW[q0]? = some (b, .inr (ci, fs))) (hG1 : ∀ (U : State) (g : JFrame) (mk : MethodId) (a : Array Value), G U → G (U.calling g mk a)) (hG2 : ∀ U : State, U.heap = H → s.WarmedH U.vm → G U) (hK : va_K D vwCl tys s) (hP : va_P D vwCl wW H) (hD : va_D A0 wW) (isC : List Nat) (hC : isC.map (fun i => wW[i]?) = wc.map some) (hn : va_nd isC = true) : PreV s H q.1 b (va_Pc (.ref b :: As) (gP D wc tys H.size G)) As :=
  ⟨hh_blind hG1, va_recv hK hP hc he, fun U hU hW => ⟨rfl, by rw [hU], by rw [hU]; exact hP.sub isC (hh_fm hC), va_K.moved hW.alike hK, (hD.sub isC hn hC).weaken (fun _ _ _ _ => trivial), hG2 U hU hW⟩⟩
theorem hh_calli {rv : Int32} (hr : va_Run p l e R s m args below meth c H locs cells slots mc ms (F0 m pc ls st0) rest (va_Qi (fun r (_ : Unit) => r = rv) (fun _ t => gB D (va_A wc H.size) wq tys t) (va_A wc H.size) X9) (va_A wc H.size)) (hP : va_P D vwCl wW H) (hD : va_D A0 wW) (hS : va_S A0 H0 H locs) (hA : ∀ q, H0.size ≤ q → A0 q) (isC isR pm : List Nat) (hC : isC.map (fun i => wW[i]?) = wc.map some) (hR : isR.map (fun i => wW[i]?) = (isR.filterMap (fun i => wW[i]?)).map some) (hn : va_nd isR = true) (hdis : ∀ i ∈ isR, i ∉ isC) (hn2 : va_nd pm = true) (h2 : pm.map (fun i => ((isR.filterMap (fun i => wW[i]?)) ++ wq)[i]?) = w2.map some)
    (kk : ∀ (H1 : Heap) (locs1 : List Loc), va_P D vwCl w2 H1 → va_D A0 w2 → va_S A0 H0 H1 locs1 → W p l e R s m args below meth c H1 locs1 (cells + mc) (slots + ms) Q (F0 m (pc + 3) ls (.int rv :: rest))) : W p l e R s m args below meth c H locs cells slots Q (F0 m pc ls st0) := by
  have hFc := va_free (wc := wc) hD hS hA isC hC
  refine va_calli hr hS (fun q _ h => hFc q h) hFc (fun r u t H1 locs1 ht hvm hw hB hz1 hk1 hS => ?_)
  obtain ⟨hP1, hK1, hD1⟩ := hB
  rw [ht] at hP1
  obtain ⟨hP2, hD2⟩ := va_join (wr := (isR.filterMap (fun i => wW[i]?))) (w1 := wq) hP hD isC isR hC hR hn hdis hk1 hFc hP1 hD1
  rw [show r = rv from hw]
  exact kk H1 locs1 (hP2.sub pm (hh_fm h2)) (hD2.sub pm hn2 h2) hS
theorem hh_calll {rv : Int64} (hr : va_Run p l e R s m args below meth c H locs cells slots mc ms (F0 m pc ls st0) rest (va_Ql (fun r (_ : Unit) => r = rv) (fun _ t => gB D (va_A wc H.size) wq tys t) (va_A wc H.size) X9) (va_A wc H.size)) (hP : va_P D vwCl wW H) (hD : va_D A0 wW) (hS : va_S A0 H0 H locs) (hA : ∀ q, H0.size ≤ q → A0 q) (isC isR pm : List Nat) (hC : isC.map (fun i => wW[i]?) = wc.map some) (hR : isR.map (fun i => wW[i]?) = (isR.filterMap (fun i => wW[i]?)).map some) (hn : va_nd isR = true) (hdis : ∀ i ∈ isR, i ∉ isC) (hn2 : va_nd pm = true) (h2 : pm.map (fun i => ((isR.filterMap (fun i => wW[i]?)) ++ wq)[i]?) = w2.map some)
    (kk : ∀ (H1 : Heap) (locs1 : List Loc), va_P D vwCl w2 H1 → va_D A0 w2 → va_S A0 H0 H1 locs1 → W p l e R s m args below meth c H1 locs1 (cells + mc) (slots + ms) Q (F0 m (pc + 3) ls (.long rv :: rest))) : W p l e R s m args below meth c H locs cells slots Q (F0 m pc ls st0) := by
  have hFc := va_free (wc := wc) hD hS hA isC hC
  refine va_calll hr hS (fun q _ h => hFc q h) hFc (fun r u t H1 locs1 ht hvm hw hB hz1 hk1 hS => ?_)
  obtain ⟨hP1, hK1, hD1⟩ := hB
  rw [ht] at hP1
  obtain ⟨hP2, hD2⟩ := va_join (wr := (isR.filterMap (fun i => wW[i]?))) (w1 := wq) hP hD isC isR hC hR hn hdis hk1 hFc hP1 hD1
  rw [show r = rv from hw]
  exact kk H1 locs1 (hP2.sub pm (hh_fm h2)) (hD2.sub pm hn2 h2) hS
theorem hh_callv (hr : va_Run p l e R s m args below meth c H locs cells slots mc ms (F0 m pc ls st0) rest (va_Qv (fun (_ : Unit) => True) (fun _ t => gB D (va_A wc H.size) wq tys t) (va_A wc H.size) X9) (va_A wc H.size)) (hP : va_P D vwCl wW H) (hD : va_D A0 wW) (hS : va_S A0 H0 H locs) (hA : ∀ q, H0.size ≤ q → A0 q) (isC isR pm : List Nat) (hC : isC.map (fun i => wW[i]?) = wc.map some) (hR : isR.map (fun i => wW[i]?) = (isR.filterMap (fun i => wW[i]?)).map some) (hn : va_nd isR = true) (hdis : ∀ i ∈ isR, i ∉ isC) (hn2 : va_nd pm = true) (h2 : pm.map (fun i => ((isR.filterMap (fun i => wW[i]?)) ++ wq)[i]?) = w2.map some)
    (kk : ∀ (H1 : Heap) (locs1 : List Loc), va_P D vwCl w2 H1 → va_D A0 w2 → va_S A0 H0 H1 locs1 → W p l e R s m args below meth c H1 locs1 (cells + mc) (slots + ms) Q (F0 m (pc + 3) ls rest)) : W p l e R s m args below meth c H locs cells slots Q (F0 m pc ls st0) := by
  have hFc := va_free (wc := wc) hD hS hA isC hC
  refine va_callv hr hS (fun q _ h => hFc q h) hFc (fun u t H1 locs1 ht hvm hw hB hz1 hk1 hS => ?_)
  obtain ⟨hP1, hK1, hD1⟩ := hB
  rw [ht] at hP1
  obtain ⟨hP2, hD2⟩ := va_join (wr := (isR.filterMap (fun i => wW[i]?))) (w1 := wq) hP hD isC isR hC hR hn hdis hk1 hFc hP1 hD1
  exact kk H1 locs1 (hP2.sub pm (hh_fm h2)) (hD2.sub pm hn2 h2) hS
end HC
section HE
variable {p : Program} {l : Launch} {e : Env} {R : Room} {s : State} {m : MethodId} {args : Array Value} {below : List Frame} {meth : Method} {c : Code} {H : Heap} {locs : List Loc} {cells slots mc ms : Nat} {cc : ByteArray} {pc : Nat} {ls : Array Slot} {D : va_G} {w : va_W} {tys : List (ClassId × FieldType)} {A : Nat → Prop} {Q : State → Prop}
theorem hh_reti {v rv : Int32} (hQ : Q = MQ below (va_Qi (fun r (_ : Unit) => r = rv) (fun _ t => gB D A w tys t) A) args s cells slots A) (hv : v = rv) (hx : p.tables.exec = Jvm.exec) (hb : c.code = cc) (hr : meth.sig.returnType = some .int) (hlocks : meth.locks = false) (hP : va_P D vwCl w H) (hK : va_K D vwCl tys s) (hD : va_D A w) (hS : va_S A s.heap H locs) (hdg : decode cc pc = .ok (.ireturn, 1)) : W p l e R s m args below meth c H locs cells slots Q (F0 m pc ls [.int v]) := by
  subst hv; subst hQ
  exact W.iret (v := v) hx hb hr (fun t ht hW => ⟨⟨v, (), rfl, rfl, by rw [ht]; exact hP, va_K.moved hW.alike hK, hD⟩, hS.F ht⟩) hS.2.2 hdg hlocks
theorem hh_retz {v rv : Int32} (hQ : Q = MQ below (va_Qi (fun r (_ : Unit) => r = rv) (fun _ t => gB D A w tys t) A) args s cells slots A) (hv : v = rv) (hz : narrow .boolean (.int v) = .int v) (hx : p.tables.exec = Jvm.exec) (hb : c.code = cc) (hr : meth.sig.returnType = some .boolean) (hlocks : meth.locks = false) (hP : va_P D vwCl w H) (hK : va_K D vwCl tys s) (hD : va_D A w) (hS : va_S A s.heap H locs) (hdg : decode cc pc = .ok (.ireturn, 1)) : W p l e R s m args below meth c H locs cells slots Q (F0 m pc ls [.int v]) := by
  subst hv; subst hQ
  exact W.zret (v := v) hx hb hr hz (fun t ht hW => ⟨⟨v, (), rfl, rfl, by rw [ht]; exact hP, va_K.moved hW.alike hK, hD⟩, hS.F ht⟩) hS.2.2 hdg hlocks
theorem hh_retl {v rv : Int64} (hQ : Q = MQ below (va_Ql (fun r (_ : Unit) => r = rv) (fun _ t => gB D A w tys t) A) args s cells slots A) (hv : v = rv) (hx : p.tables.exec = Jvm.exec) (hb : c.code = cc) (hr : meth.sig.returnType = some .long) (hlocks : meth.locks = false) (hP : va_P D vwCl w H) (hK : va_K D vwCl tys s) (hD : va_D A w) (hS : va_S A s.heap H locs) (hdg : decode cc pc = .ok (.lreturn, 1)) : W p l e R s m args below meth c H locs cells slots Q (F0 m pc ls [.long v]) := by
  subst hv; subst hQ
  exact W.lret (v := v) hx hb hr (fun t ht hW => ⟨⟨v, (), rfl, rfl, by rw [ht]; exact hP, va_K.moved hW.alike hK, hD⟩, hS.F ht⟩) hS.2.2 hdg hlocks
theorem hh_retv (hQ : Q = MQ below (va_Qv (fun (_ : Unit) => True) (fun _ t => gB D A w tys t) A) args s cells slots A) (hx : p.tables.exec = Jvm.exec) (hb : c.code = cc) (hr : meth.sig.returnType = none) (hlocks : meth.locks = false) (hP : va_P D vwCl w H) (hK : va_K D vwCl tys s) (hD : va_D A w) (hS : va_S A s.heap H locs) (hdg : decode cc pc = .ok (.return_, 1)) : W p l e R s m args below meth c H locs cells slots Q (F0 m pc ls []) := by
  subst hQ
  exact W.vret hx hb hr (fun t ht hW => ⟨⟨(), rfl, trivial, by rw [ht]; exact hP, va_K.moved hW.alike hK, hD⟩, hS.F ht⟩) hS.2.2 hdg hlocks
end HE
theorem hh_ofWF {l : Launch} {y : MethodName} {ws ws' : List Cond} {rm : Room} {Pc : Array Value → State → Prop} {Qc : Array Value → State → Outcome → State → Prop} {mc ms : Nat} {free : Addr → Prop} {cc : ByteArray} {maxL : Nat} {ret : Option FieldType}
    (hy : plainFor y = true) (hw : ws = Cond.code y cc maxL ret :: ws')
    (body : ∀ p e s m args below meth c s₁, BodyLoose p l y (headSpec ws rm) cc maxL ret e s m args below meth c s₁ → c.maxLocals = maxL → Pc args s →
      W p l e (headSpec ws rm).room s m args below meth c s.heap [] 0 0 (MQ below Qc args s mc ms free) (entryFrame m args maxL)) : Met l y ws rm Pc Qc mc ms free := by
  refine MetFree.of_bodySF (code := cc) (maxLocals := maxL) (ret := ret) hy ?_ ?_
  · intro args s m h hn
    obtain ⟨meth, c, h1, h2, h3, h4, h5, h6, -, -⟩ := Cond.code_spec hn (atoms_spec (ws := ws) h _ (by rw [hw]; exact List.mem_cons_self))
    exact ⟨meth, c, h1, h2, h3, h4, h5, h6⟩
  · intro p e s m args below meth c s₁ B hml hP _
    have hh0 : s₁.heap = s.heap := by rw [B.state]; rfl
    obtain ⟨t, a1, o, b1, b2, b3⟩ := body p e s m args below meth c s₁ B hml hP s₁ hh0 (Stand.of_body B)
    exact ⟨t, o, a1, b1, b2, ⟨b3.1, b3.2⟩⟩
