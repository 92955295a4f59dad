-- exceptions: codes, what a throw wants, how one goes on to the caller
def exN (k : Nat) : String := if k = 1 then "java/lang/IndexOutOfBoundsException" else if k = 2 then "java/lang/IllegalArgumentException" else "java/lang/IllegalStateException"
abbrev exL : List String := ["java/lang/RuntimeException", "java/lang/Exception"]
def gE (D : va_G) (A : Nat → Prop) (w : va_W) (tys : List (ClassId × FieldType)) (cx : Nat) : String → State → State → Prop := vx_X (fun (_ : Unit) => cx ≠ 0) (fun E _ t => E = exN cx ∧ gB D A w tys t) A
def gS (U : State) : Prop := (∃ a, vk_R RX5 211 "no such loop" a U) ∧ (∃ a, vk_R RX5 222 "out of range" a U) ∧ (∃ a, vk_R RX5 227 "not in this state" a U) ∧ (∃ a, vk_R RX5 216 "no such gain" a U) ∧ va_Nw (.castable (exN 1) (exN 1)) U ∧ va_Nw (.castable (exN 2) (exN 2)) U ∧ va_Nw (.castable (exN 3) (exN 3)) U ∧ va_Nw (.declares (Bundle.initS "java/lang/RuntimeException")) U ∧ va_Nw (.declares (Bundle.initS "java/lang/Exception")) U ∧ va_Nw (.declares (Bundle.initS Bundle.tN)) U
def gZ (A : Nat → Prop) (U : State) : Prop := vx_Zq Bundle.tN "UNASSIGNED_STACK" Bundle.steD A U U.heap ∧ vx_Zq Bundle.tN "SUPPRESSED_SENTINEL" Bundle.listD A U U.heap
def gT (A : Nat → Prop) (U : State) : Prop := gN U ∧ gS U ∧ gZ A U
theorem gS_w {s U : State} (hW : s.WarmedH U.vm) (h : gS s) : gS U := by
  obtain ⟨⟨a1, h1⟩, ⟨a2, h2⟩, ⟨a3, h3⟩, ⟨a4, h4⟩, h5, h6, h7, h8, h9, h10⟩ := h
  exact ⟨⟨a1, vk_R.warm hW h1⟩, ⟨a2, vk_R.warm hW h2⟩, ⟨a3, vk_R.warm hW h3⟩, ⟨a4, vk_R.warm hW h4⟩, va_Nw.warmC hW h5, va_Nw.warmC hW h6, va_Nw.warmC hW h7, va_Nw.warmD hW h8, va_Nw.warmD hW h9, va_Nw.warmD hW h10⟩
theorem gS_c (U : State) (g : JFrame) (mk : MethodId) (a : Array Value) (h : gS U) : gS (U.calling g mk a) := by
  obtain ⟨⟨a1, h1⟩, ⟨a2, h2⟩, ⟨a3, h3⟩, ⟨a4, h4⟩, h5, h6, h7, h8, h9, h10⟩ := h
  exact ⟨⟨a1, vk_R.same rfl h1⟩, ⟨a2, vk_R.same rfl h2⟩, ⟨a3, vk_R.same rfl h3⟩, ⟨a4, vk_R.same rfl h4⟩, va_Nw.same rfl rfl h5, va_Nw.same rfl rfl h6, va_Nw.same rfl rfl h7, va_Nw.same rfl rfl h8, va_Nw.same rfl rfl h9, va_Nw.same rfl rfl h10⟩
theorem gZ_c (A : Nat → Prop) (U : State) (g : JFrame) (mk : MethodId) (a : Array Value) (h : gZ A U) : gZ A (U.calling g mk a) := ⟨vx_Zq.moved (u := U) (U := U.calling g mk a) (Vm.Alike.refl U.vm) h.1, vx_Zq.moved (u := U) (U := U.calling g mk a) (Vm.Alike.refl U.vm) h.2⟩
theorem gT_c (A : Nat → Prop) (U : State) (g : JFrame) (mk : MethodId) (a : Array Value) (h : gT A U) : gT A (U.calling g mk a) := ⟨gN_c U g mk a h.1, gS_c U g mk a h.2.1, gZ_c A U g mk a h.2.2⟩
theorem gT_call {s : State} {A0 A1 : Nat → Prop} {H : Heap} {locs : List Loc} (hG : gT A0 s) (hS : va_S A0 s.heap H locs) (hF : ∀ q, A1 q → A0 q) (U : State) (hU : U.heap = H) (hW : s.WarmedH U.vm) : gT A1 U := by
  obtain ⟨h1, h2, h3, h4⟩ := hG
  refine ⟨gN_w hW h1, gS_w hW h2, ?_, ?_⟩
  · rw [hU]; exact vx_Zq.narrow (vx_Zq.moved hW.alike (vx_Zq.kept h3 hS.2.1)) hF
  · rw [hU]; exact vx_Zq.narrow (vx_Zq.moved hW.alike (vx_Zq.kept h4 hS.2.1)) hF
abbrev atB (k : Nat) : List Cond := [.declares (Bundle.initS "java/lang/RuntimeException"), .declares (Bundle.initS "java/lang/Exception"), .declares (Bundle.initS Bundle.tN), .castable (exN k) (exN k)]
theorem at_g1 : ∀ w ∈ (vx_atS RX5 213 (exN 1) exL).filter goodWord, w ∈ wAll := fun w h => List.mem_filter.mpr ⟨(show ∀ w ∈ (vx_atS RX5 213 (exN 1) exL).filter goodWord, w ∈ lw_tbl by decide +kernel) w h, (List.mem_filter.mp h).2⟩
theorem at_g2 : ∀ w ∈ (vx_atS RX5 224 (exN 2) exL).filter goodWord, w ∈ wAll := fun w h => List.mem_filter.mpr ⟨(show ∀ w ∈ (vx_atS RX5 224 (exN 2) exL).filter goodWord, w ∈ lw_tbl by decide +kernel) w h, (List.mem_filter.mp h).2⟩
theorem at_g3 : ∀ w ∈ (vx_atS RX5 229 (exN 3) exL).filter goodWord, w ∈ wAll := fun w h => List.mem_filter.mpr ⟨(show ∀ w ∈ (vx_atS RX5 229 (exN 3) exL).filter goodWord, w ∈ lw_tbl by decide +kernel) w h, (List.mem_filter.mp h).2⟩
theorem at_b1 : (vx_atS RX5 213 (exN 1) exL).filter (fun w => !goodWord w) = atB 1 := by decide +kernel
theorem at_b2 : (vx_atS RX5 224 (exN 2) exL).filter (fun w => !goodWord w) = atB 2 := by decide +kernel
theorem at_b3 : (vx_atS RX5 229 (exN 3) exL).filter (fun w => !goodWord w) = atB 3 := by decide +kernel
theorem at_of {own : String} {ic k : Nat} {args : Array Value} {s : State} (hts : ∀ w ∈ wAll, w.before args s = true) (h1 : ∀ w ∈ (vx_atS own ic (exN k) exL).filter goodWord, w ∈ wAll) (h2 : (vx_atS own ic (exN k) exL).filter (fun w => !goodWord w) = atB k) (h3 : va_Nw (.castable (exN k) (exN k)) s) (hS : gS s) : ∀ w ∈ vx_atS own ic (exN k) exL, w.before args s = true := by
  obtain ⟨-, -, -, -, -, -, -, h8, h9, h10⟩ := hS
  refine vx_hat (B := atB k) (fun w h => hts w (h1 w h)) (fun w h => ?_) (vx_c (va_Nw.use rfl h8) (vx_c (va_Nw.use rfl h9) (vx_c (va_Nw.use rfl h10) (vx_c (va_Nw.use rfl h3) vx_n))))
  rw [h2] at h
  exact h
section VQ
variable {p : Program} {l : Launch} {e : Env} {R : Room} {s : State} {m : MethodId} {args : Array Value} {below : List Frame} {meth : Method} {c : Code} {H : Heap} {locs : List Loc} {cells slots : Nat} {Q : State → Prop}
variable {mc ms : Nat} {free : Addr → Prop} {A0 A1 : Nat → Prop} {H0 : Heap} {a : Array Value} {pc : Nat} {ls : Array Slot} {st0 rest : List Value}
-- out of the kit's laws to paste (EXCEPTIONS)
theorem vx_callq {S SX : Type} {post : Option Nat → S → Prop} {px : SX → Prop} {B : S → State → Prop} {BX : String → SX → State → Prop} {AX : Nat → Prop} (hr : vx_Run p l e R s m args below meth c H locs cells slots mc ms (F0 m pc ls st0) rest (va_Qq post B A1 a) (vx_X px BX AX) free) (hS : va_S A0 H0 H locs) (hA : ∀ q, q < H.size → A1 q → A0 q) (hf : ∀ q, free q → A0 q) (hAX : ∀ q, q < H.size → AX q → A0 q)
    (kx : ∀ (E : String) (ce : Cell) (q9 : Addr) (u : SX) (t : State) (H1 : Heap) (locs1 : List Loc), t.heap = H1 → s.vm.Alike t.vm → px u → BX E u t → H.size ≤ H1.size → (∀ q : Nat, q < H.size → ¬ AX q → H1[q]? = H[q]?) → va_S A0 H0 H1 locs1 → H1[q9]? = some ce → ce.vm = .none → s.vm.findClass E = some ce.cls → vx_W p l e R s m args below meth c H1 locs1 (cells + mc) (slots + ms) Q (F0 m pc ls rest) q9)
    (kk : ∀ (r : Option Nat) (u : S) (t : State) (H1 : Heap) (locs1 : List Loc), t.heap = H1 → s.vm.Alike t.vm → post r u → B u t → H.size ≤ H1.size → (∀ q : Nat, q < H.size → ¬ A1 q → H1[q]? = H[q]?) → va_S A0 H0 H1 locs1 → W p l e R s m args below meth c H1 locs1 (cells + mc) (slots + ms) Q (F0 m (pc + 3) ls (va_rf r :: rest))) : W p l e R s m args below meth c H locs cells slots Q (F0 m pc ls st0) := by
  intro T hT X
  rcases hr T hT X with ⟨v, st₀, t, T', L, h0, X', hL, e1, e2, ⟨⟨r, u, hv, hp, hb⟩, hF⟩, st⟩ | ⟨q, st₀, t, T', L, E, ce, h0, X', hL, e1, e2, ⟨u, hp, hb, hF⟩, hce, hcv, hcl, st⟩
  · cases hv
    obtain ⟨k1, k2, k3⟩ := vx_keep h0 e1 hS hA hf hL hF
    obtain ⟨t2, a1, b1⟩ := kk r u t T'.heap (locs ++ L) e1.symm (by rw [← e2]; exact X'.warmed.alike) hp hb k1 k2 k3 T' rfl X'
    exact ⟨t2, st t2 a1, b1⟩
  · obtain ⟨k1, k2, k3⟩ := vx_keep h0 e1 hS hAX hf hL hF
    obtain ⟨t2, a1, b1⟩ := kx E ce q u t T'.heap (locs ++ L) e1.symm (by rw [← e2]; exact X'.warmed.alike) hp hb k1 k2 k3 (by rw [e1]; exact hce) hcv hcl T' rfl X'
    exact ⟨t2, st.trans a1, b1⟩
end VQ
section HX
variable {p : Program} {l : Launch} {e : Env} {R : Room} {s : State} {m : MethodId} {args : Array Value} {below : List Frame} {meth : Method} {c : Code} {H : Heap} {locs : List Loc} {cells slots mc ms : Nat} {Q : State → Prop} {cc : ByteArray} {pc : Nat} {ls : Array Slot} {rest st0 As : List Value}
variable {D : va_G} {w wW wc wq w2 : va_W} {tys : List (ClassId × FieldType)} {A A0 : Nat → Prop} {H0 : Heap} {X9 : Array Value} {cx mx : Nat} {Qc : Array Value → State → Outcome → State → Prop}
theorem hh_xcallv (hr : vx_Run p l e R s m args below meth c H locs cells slots mc ms (F0 m pc ls st0) rest (va_Qv (fun (_ : Unit) => cx = 0) (fun _ t => gB D (va_A wc H.size) wq tys t) (va_A wc H.size) X9) (gE D (va_A wc H.size) wc tys cx) (va_A wc H.size)) (hP : va_P D vwCl wW H) (hD : va_D A0 wW) (hS : va_S A0 H0 H locs) (hA : ∀ q, H0.size ≤ q → A0 q) (isC isR pm : List Nat) (hC : isC.map (fun i => wW[i]?) = wc.map some) (hR : isR.map (fun i => wW[i]?) = (isR.filterMap (fun i => wW[i]?)).map some) (hn : va_nd isR = true) (hdis : ∀ i ∈ isR, i ∉ isC) (hn2 : va_nd pm = true) (h2 : pm.map (fun i => ((isR.filterMap (fun i => wW[i]?)) ++ wq)[i]?) = w2.map some) (h3 : pm.map (fun i => ((isR.filterMap (fun i => wW[i]?)) ++ wc)[i]?) = wW.map some)
    (kx : ∀ (E : String) (ce : Cell) (q9 : Addr) (H1 : Heap) (locs1 : List Loc), cx ≠ 0 → E = exN cx → va_P D vwCl wW H1 → va_D A0 wW → va_S A0 H0 H1 locs1 → H1[q9]? = some ce → ce.vm = .none → s.vm.findClass E = some ce.cls → vx_W p l e R s m args below meth c H1 locs1 (cells + mc) (slots + ms) Q (F0 m pc ls rest) q9)
    (kk : ∀ (H1 : Heap) (locs1 : List Loc), cx = 0 → va_P D vwCl w2 H1 → va_D A0 w2 → va_S A0 H0 H1 locs1 → W p l e R s m args below meth c H1 locs1 (cells + mc) (slots + ms) Q (F0 m (pc + 3) ls rest)) : W p l e R s m args below meth c H locs cells slots Q (F0 m pc ls st0) := by
  have hFc := va_free (wc := wc) hD hS hA isC hC
  refine vx_callv hr hS (fun q _ h => hFc q h) hFc (fun q _ h => hFc q h) (fun E ce q9 u t H1 locs1 ht hvm hw hB hz1 hk1 hS h1 h2 h3b => ?_) (fun u t H1 locs1 ht hvm hw hB hz1 hk1 hS => ?_)
  · obtain ⟨hE, hP1, hK1, hD1⟩ := hB
    rw [ht] at hP1
    obtain ⟨hP2, hD2⟩ := va_join (wr := (isR.filterMap (fun i => wW[i]?))) (w1 := wc) hP hD isC isR hC hR hn hdis hk1 hFc hP1 hD1
    exact kx E ce q9 H1 locs1 hw hE (hP2.sub pm (hh_fm h3)) (hD2.sub pm hn2 h3) hS h1 h2 h3b
  · obtain ⟨hP1, hK1, hD1⟩ := hB
    rw [ht] at hP1
    obtain ⟨hP2, hD2⟩ := va_join (wr := (isR.filterMap (fun i => wW[i]?))) (w1 := wq) hP hD isC isR hC hR hn hdis hk1 hFc hP1 hD1
    exact kk H1 locs1 hw (hP2.sub pm (hh_fm h2)) (hD2.sub pm hn2 h2) hS
theorem hh_xcalli {rv : Int32} (hr : vx_Run p l e R s m args below meth c H locs cells slots mc ms (F0 m pc ls st0) rest (va_Qi (fun r (_ : Unit) => cx = 0 ∧ r = rv) (fun _ t => gB D (va_A wc H.size) wq tys t) (va_A wc H.size) X9) (gE D (va_A wc H.size) wc tys cx) (va_A wc H.size)) (hP : va_P D vwCl wW H) (hD : va_D A0 wW) (hS : va_S A0 H0 H locs) (hA : ∀ q, H0.size ≤ q → A0 q) (isC isR pm : List Nat) (hC : isC.map (fun i => wW[i]?) = wc.map some) (hR : isR.map (fun i => wW[i]?) = (isR.filterMap (fun i => wW[i]?)).map some) (hn : va_nd isR = true) (hdis : ∀ i ∈ isR, i ∉ isC) (hn2 : va_nd pm = true) (h2 : pm.map (fun i => ((isR.filterMap (fun i => wW[i]?)) ++ wq)[i]?) = w2.map some) (h3 : pm.map (fun i => ((isR.filterMap (fun i => wW[i]?)) ++ wc)[i]?) = wW.map some)
    (kx : ∀ (E : String) (ce : Cell) (q9 : Addr) (H1 : Heap) (locs1 : List Loc), cx ≠ 0 → E = exN cx → va_P D vwCl wW H1 → va_D A0 wW → va_S A0 H0 H1 locs1 → H1[q9]? = some ce → ce.vm = .none → s.vm.findClass E = some ce.cls → vx_W p l e R s m args below meth c H1 locs1 (cells + mc) (slots + ms) Q (F0 m pc ls rest) q9)
    (kk : ∀ (H1 : Heap) (locs1 : List Loc), cx = 0 → va_P D vwCl w2 H1 → va_D A0 w2 → va_S A0 H0 H1 locs1 → W p l e R s m args below meth c H1 locs1 (cells + mc) (slots + ms) Q (F0 m (pc + 3) ls (.int rv :: rest))) : W p l e R s m args below meth c H locs cells slots Q (F0 m pc ls st0) := by
  have hFc := va_free (wc := wc) hD hS hA isC hC
  refine vx_calli hr hS (fun q _ h => hFc q h) hFc (fun q _ h => hFc q h) (fun E ce q9 u t H1 locs1 ht hvm hw hB hz1 hk1 hS h1 h2 h3b => ?_) (fun r u t H1 locs1 ht hvm hw hB hz1 hk1 hS => ?_)
  · obtain ⟨hE, hP1, hK1, hD1⟩ := hB
    rw [ht] at hP1
    obtain ⟨hP2, hD2⟩ := va_join (wr := (isR.filterMap (fun i => wW[i]?))) (w1 := wc) hP hD isC isR hC hR hn hdis hk1 hFc hP1 hD1
    exact kx E ce q9 H1 locs1 hw hE (hP2.sub pm (hh_fm h3)) (hD2.sub pm hn2 h3) hS h1 h2 h3b
  · obtain ⟨hP1, hK1, hD1⟩ := hB
    rw [ht] at hP1
    obtain ⟨hP2, hD2⟩ := va_join (wr := (isR.filterMap (fun i => wW[i]?))) (w1 := wq) hP hD isC isR hC hR hn hdis hk1 hFc hP1 hD1
    rw [show r = rv from hw.2]
    exact kk H1 locs1 hw.1 (hP2.sub pm (hh_fm h2)) (hD2.sub pm hn2 h2) hS
theorem hh_xcalll {rv : Int64} (hr : vx_Run p l e R s m args below meth c H locs cells slots mc ms (F0 m pc ls st0) rest (va_Ql (fun r (_ : Unit) => cx = 0 ∧ r = rv) (fun _ t => gB D (va_A wc H.size) wq tys t) (va_A wc H.size) X9) (gE D (va_A wc H.size) wc tys cx) (va_A wc H.size)) (hP : va_P D vwCl wW H) (hD : va_D A0 wW) (hS : va_S A0 H0 H locs) (hA : ∀ q, H0.size ≤ q → A0 q) (isC isR pm : List Nat) (hC : isC.map (fun i => wW[i]?) = wc.map some) (hR : isR.map (fun i => wW[i]?) = (isR.filterMap (fun i => wW[i]?)).map some) (hn : va_nd isR = true) (hdis : ∀ i ∈ isR, i ∉ isC) (hn2 : va_nd pm = true) (h2 : pm.map (fun i => ((isR.filterMap (fun i => wW[i]?)) ++ wq)[i]?) = w2.map some) (h3 : pm.map (fun i => ((isR.filterMap (fun i => wW[i]?)) ++ wc)[i]?) = wW.map some)
    (kx : ∀ (E : String) (ce : Cell) (q9 : Addr) (H1 : Heap) (locs1 : List Loc), cx ≠ 0 → E = exN cx → va_P D vwCl wW H1 → va_D A0 wW → va_S A0 H0 H1 locs1 → H1[q9]? = some ce → ce.vm = .none → s.vm.findClass E = some ce.cls → vx_W p l e R s m args below meth c H1 locs1 (cells + mc) (slots + ms) Q (F0 m pc ls rest) q9)
    (kk : ∀ (H1 : Heap) (locs1 : List Loc), cx = 0 → va_P D vwCl w2 H1 → va_D A0 w2 → va_S A0 H0 H1 locs1 → W p l e R s m args below meth c H1 locs1 (cells + mc) (slots + ms) Q (F0 m (pc + 3) ls (.long rv :: rest))) : W p l e R s m args below meth c H locs cells slots Q (F0 m pc ls st0) := by
  have hFc := va_free (wc := wc) hD hS hA isC hC
  refine vx_calll hr hS (fun q _ h => hFc q h) hFc (fun q _ h => hFc q h) (fun E ce q9 u t H1 locs1 ht hvm hw hB hz1 hk1 hS h1 h2 h3b => ?_) (fun r u t H1 locs1 ht hvm hw hB hz1 hk1 hS => ?_)
  · obtain ⟨hE, hP1, hK1, hD1⟩ := hB
    rw [ht] at hP1
    obtain ⟨hP2, hD2⟩ := va_join (wr := (isR.filterMap (fun i => wW[i]?))) (w1 := wc) hP hD isC isR hC hR hn hdis hk1 hFc hP1 hD1
    exact kx E ce q9 H1 locs1 hw hE (hP2.sub pm (hh_fm h3)) (hD2.sub pm hn2 h3) hS h1 h2 h3b
  · obtain ⟨hP1, hK1, hD1⟩ := hB
    rw [ht] at hP1
    obtain ⟨hP2, hD2⟩ := va_join (wr := (isR.filterMap (fun i => wW[i]?))) (w1 := wq) hP hD isC isR hC hR hn hdis hk1 hFc hP1 hD1
    rw [show r = rv from hw.2]
    exact kk H1 locs1 hw.1 (hP2.sub pm (hh_fm h2)) (hD2.sub pm hn2 h2) hS
theorem hh_xcallq {rv : Option Nat} (hr : vx_Run p l e R s m args below meth c H locs cells slots mc ms (F0 m pc ls st0) rest (va_Qq (fun r (_ : Unit) => cx = 0 ∧ r = rv) (fun _ t => gB D (va_A wc H.size) wq tys t) (va_A wc H.size) X9) (gE D (va_A wc H.size) wc tys cx) (va_A wc H.size)) (hP : va_P D vwCl wW H) (hD : va_D A0 wW) (hS : va_S A0 H0 H locs) (hA : ∀ q, H0.size ≤ q → A0 q) (isC isR pm : List Nat) (hC : isC.map (fun i => wW[i]?) = wc.map some) (hR : isR.map (fun i => wW[i]?) = (isR.filterMap (fun i => wW[i]?)).map some) (hn : va_nd isR = true) (hdis : ∀ i ∈ isR, i ∉ isC) (hn2 : va_nd pm = true) (h2 : pm.map (fun i => ((isR.filterMap (fun i => wW[i]?)) ++ wq)[i]?) = w2.map some) (h3 : pm.map (fun i => ((isR.filterMap (fun i => wW[i]?)) ++ wc)[i]?) = wW.map some)
    (kx : ∀ (E : String) (ce : Cell) (q9 : Addr) (H1 : Heap) (locs1 : List Loc), cx ≠ 0 → E = exN cx → va_P D vwCl wW H1 → va_D A0 wW → va_S A0 H0 H1 locs1 → H1[q9]? = some ce → ce.vm = .none → s.vm.findClass E = some ce.cls → vx_W p l e R s m args below meth c H1 locs1 (cells + mc) (slots + ms) Q (F0 m pc ls rest) q9)
    (kk : ∀ (H1 : Heap) (locs1 : List Loc), cx = 0 → va_P D vwCl w2 H1 → va_D A0 w2 → va_S A0 H0 H1 locs1 → W p l e R s m args below meth c H1 locs1 (cells + mc) (slots + ms) Q (F0 m (pc + 3) ls (va_rf rv :: rest))) : W p l e R s m args below meth c H locs cells slots Q (F0 m pc ls st0) := by
  have hFc := va_free (wc := wc) hD hS hA isC hC
  refine vx_callq hr hS (fun q _ h => hFc q h) hFc (fun q _ h => hFc q h) (fun E ce q9 u t H1 locs1 ht hvm hw hB hz1 hk1 hS h1 h2 h3b => ?_) (fun r u t H1 locs1 ht hvm hw hB hz1 hk1 hS => ?_)
  · obtain ⟨hE, hP1, hK1, hD1⟩ := hB
    rw [ht] at hP1
    obtain ⟨hP2, hD2⟩ := va_join (wr := (isR.filterMap (fun i => wW[i]?))) (w1 := wc) hP hD isC isR hC hR hn hdis hk1 hFc hP1 hD1
    exact kx E ce q9 H1 locs1 hw hE (hP2.sub pm (hh_fm h3)) (hD2.sub pm hn2 h3) hS h1 h2 h3b
  · obtain ⟨hP1, hK1, hD1⟩ := hB
    rw [ht] at hP1
    obtain ⟨hP2, hD2⟩ := va_join (wr := (isR.filterMap (fun i => wW[i]?))) (w1 := wq) hP hD isC isR hC hR hn hdis hk1 hFc hP1 hD1
    rw [show r = rv from hw.2]
    exact kk H1 locs1 hw.1 (hP2.sub pm (hh_fm h2)) (hD2.sub pm hn2 h2) hS
theorem hh_prop {E : String} {ce : Cell} {q9 : Addr} (hQ : Q = vx_MQ below Qc (gE D A w tys mx) args s mc ms A) (hm : mx = cx) (htab : ∀ x ∈ c.exceptionTable.toList, False) (hlocks : meth.locks = false) (hne : cx ≠ 0) (hE : E = exN cx) (hP : va_P D vwCl w H) (hK : va_K D vwCl tys s) (hD : va_D A w) (hS : va_S A s.heap H locs) (hc1 : H[q9]? = some ce) (hc2 : ce.vm = .none) (hc3 : s.vm.findClass E = some ce.cls) (h1 : cells ≤ mc) (h2 : slots ≤ ms) : vx_W p l e R s m args below meth c H locs cells slots Q (F0 m pc ls rest) q9 := by
  subst hQ; subst hm
  exact vx_out (fun x hx => (htab x hx).elim) hlocks hc1 hc2 hc3 (fun t ht hvm => ⟨(), hne, ⟨hE, by rw [ht]; exact hP, va_K.moved hvm hK, hD⟩, hS.F ht⟩) hS.2.2 h1 h2
theorem hh_throwS {own text : String} {ik is ic code : Nat} (hQ : Q = vx_MQ below Qc (gE D A w tys mx) args s mc ms A) (hm : mx = code) (hcode : code ≠ 0) (hx : p.tables.exec = Jvm.exec) (hb : c.code = cc) (hfl : l.stackTraces = false) (hown : s.vm.findClass own = some m.cls) (hfit : Bundle.fit (exN code) = true) (hk : (Cond.classLink own ik (exN code)).before args s = true) (hini : (Cond.initialized (exN code)).before args s = true) (hstr : ∃ sa, vk_R own is text sa s) (hat : ∀ w ∈ vx_atS own ic (exN code) exL, w.before args s = true) (hgood : ∀ w ∈ Cond.classLink own ik (exN code) :: Cond.initialized (exN code) :: vx_atS own ic (exN code) exL, vx_ot w = true) (hZ : gZ A s)
    (hP : va_P D vwCl w H) (hK : va_K D vwCl tys s) (hD : va_D A w) (hS : va_S A s.heap H locs) (hsize : ls.size = c.maxLocals) (d0 : decode cc pc = .ok (.new ik, 3)) (d3 : decode cc (pc + 3) = .ok (.dup, 1)) (d4 : decode cc (pc + 4) = .ok (.ldc is, 2)) (d6 : decode cc (pc + 6) = .ok (.invokespecial ic, 3)) (d9 : decode cc (pc + 9) = .ok (.athrow, 1)) (htab : ∀ x ∈ c.exceptionTable.toList, False) (hRf : 5 < R.frames) (hRl : (rest.map fun v => v.category).sum + 82 ≤ R.locals) (hRc : cells + 1 ≤ R.cells) (hRs : slots + 6 ≤ R.slots) (hlocks : meth.locks = false) (hc : cells + 1 ≤ mc) (hs : slots + 6 ≤ ms) : W p l e R s m args below meth c H locs cells slots Q (F0 m pc ls rest) := by
  subst hQ; subst hm
  obtain ⟨sa, hstr⟩ := hstr
  refine vx_throwS (A := A) (names := exL) hx hb hfl hown hfit (by decide) hk hini hstr hat hgood hZ.1 hZ.2 hS hsize d0 d3 d4 d6 d9 (fun x hx => (htab x hx).elim) hRf hRl hRc hRs hlocks (fun t hvm hz hkp => ?_) hS.2.2 hc hs
  have hPt : va_P D vwCl w t.heap := hP.kept (fun k q hk => hkp q.1 (vx_lt hP hk))
  exact ⟨(), hcode, ⟨rfl, hPt, va_K.moved hvm hK, hD⟩, ⟨Nat.le_trans hS.1 hz, fun q h1 h2 => by rw [hkp q (Nat.lt_of_lt_of_le h1 hS.1)]; exact hS.2.1 q h1 h2⟩⟩
theorem hh_xretv (hQ : Q = vx_MQ below (va_Qv (fun (_ : Unit) => mx = 0) (fun _ t => gB D A w tys t) A) (gE D A wW tys mx) args s cells slots A) (hm : mx = 0) (hx : p.tables.exec = Jvm.exec) (hb : c.code = cc) (hr : meth.sig.returnType = none) (hlocks : meth.locks = false) (hP : va_P D vwCl w H) (hK : va_K D vwCl tys s) (hD : va_D A w) (hS : va_S A s.heap H locs) (hdg : decode cc pc = .ok (.return_, 1)) : W p l e R s m args below meth c H locs cells slots Q (F0 m pc ls []) := by
  subst hQ
  exact vx_ret (W.vret hx hb hr (fun t ht hW => ⟨⟨(), rfl, hm, by rw [ht]; exact hP, va_K.moved hW.alike hK, hD⟩, hS.F ht⟩) hS.2.2 hdg hlocks)
theorem hh_xreti {v rv : Int32} (hQ : Q = vx_MQ below (va_Qi (fun r (_ : Unit) => mx = 0 ∧ r = rv) (fun _ t => gB D A w tys t) A) (gE D A wW tys mx) args s cells slots A) (hm : mx = 0) (hv : v = rv) (hx : p.tables.exec = Jvm.exec) (hb : c.code = cc) (hr : meth.sig.returnType = some .int) (hlocks : meth.locks = false) (hP : va_P D vwCl w H) (hK : va_K D vwCl tys s) (hD : va_D A w) (hS : va_S A s.heap H locs) (hdg : decode cc pc = .ok (.ireturn, 1)) : W p l e R s m args below meth c H locs cells slots Q (F0 m pc ls [.int v]) := by
  subst hv; subst hQ
  exact vx_ret (W.iret (v := v) hx hb hr (fun t ht hW => ⟨⟨v, (), rfl, ⟨hm, rfl⟩, by rw [ht]; exact hP, va_K.moved hW.alike hK, hD⟩, hS.F ht⟩) hS.2.2 hdg hlocks)
theorem hh_xretl {v rv : Int64} (hQ : Q = vx_MQ below (va_Ql (fun r (_ : Unit) => mx = 0 ∧ r = rv) (fun _ t => gB D A w tys t) A) (gE D A wW tys mx) args s cells slots A) (hm : mx = 0) (hv : v = rv) (hx : p.tables.exec = Jvm.exec) (hb : c.code = cc) (hr : meth.sig.returnType = some .long) (hlocks : meth.locks = false) (hP : va_P D vwCl w H) (hK : va_K D vwCl tys s) (hD : va_D A w) (hS : va_S A s.heap H locs) (hdg : decode cc pc = .ok (.lreturn, 1)) : W p l e R s m args below meth c H locs cells slots Q (F0 m pc ls [.long v]) := by
  subst hv; subst hQ
  exact vx_ret (W.lret (v := v) hx hb hr (fun t ht hW => ⟨⟨v, (), rfl, ⟨hm, rfl⟩, by rw [ht]; exact hP, va_K.moved hW.alike hK, hD⟩, hS.F ht⟩) hS.2.2 hdg hlocks)
theorem hh_retq {a : Nat} {rv : Option Nat} {rt : FieldType} (hQ : Q = MQ below (va_Qq (fun r (_ : Unit) => r = rv) (fun _ t => gB D A w tys t) A) args s cells slots A) (hv : some a = rv) (hx : p.tables.exec = Jvm.exec) (hb : c.code = cc) (hr : meth.sig.returnType = some rt) (hrt : (∃ n, rt = .object n) ∨ ∃ t, rt = .array t) (hlocks : meth.locks = false) (hP : va_P D vwCl w H) (hK : va_K D vwCl tys s) (hD : va_D A w) (hS : va_S A s.heap H locs) (hdg : decode cc pc = .ok (.areturn, 1)) : W p l e R s m args below meth c H locs cells slots Q (F0 m pc ls [.ref a]) := by
  subst hv; subst hQ
  exact W.aret (v := .ref a) hx hb hr hrt (Or.inr ⟨a, rfl⟩) (fun t ht hW => ⟨⟨some a, (), rfl, rfl, by rw [ht]; exact hP, va_K.moved hW.alike hK, hD⟩, hS.F ht⟩) hS.2.2 hdg hlocks
theorem hh_callq {rv : Option Nat} (hr : va_Run p l e R s m args below meth c H locs cells slots mc ms (F0 m pc ls st0) rest (va_Qq (fun r (_ : Unit) => r = rv) (fun _ t => gB D (va_A wc H.size) wq tys t) (va_A wc H.size) X9) (va_A wc H.size)) (hP : va_P D vwCl wW H) (hD : va_D A0 wW) (hS : va_S A0 H0 H locs) (hA : ∀ q, H0.size ≤ q → A0 q) (isC isR pm : List Nat) (hC : isC.map (fun i => wW[i]?) = wc.map some) (hR : isR.map (fun i => wW[i]?) = (isR.filterMap (fun i => wW[i]?)).map some) (hn : va_nd isR = true) (hdis : ∀ i ∈ isR, i ∉ isC) (hn2 : va_nd pm = true) (h2 : pm.map (fun i => ((isR.filterMap (fun i => wW[i]?)) ++ wq)[i]?) = w2.map some)
    (kk : ∀ (H1 : Heap) (locs1 : List Loc), va_P D vwCl w2 H1 → va_D A0 w2 → va_S A0 H0 H1 locs1 → W p l e R s m args below meth c H1 locs1 (cells + mc) (slots + ms) Q (F0 m (pc + 3) ls (va_rf rv :: rest))) : W p l e R s m args below meth c H locs cells slots Q (F0 m pc ls st0) := by
  have hFc := va_free (wc := wc) hD hS hA isC hC
  refine va_callq hr hS (fun q _ h => hFc q h) hFc (fun r u t H1 locs1 ht hvm hw hB hz1 hk1 hS => ?_)
  obtain ⟨hP1, hK1, hD1⟩ := hB
  rw [ht] at hP1
  obtain ⟨hP2, hD2⟩ := va_join (wr := (isR.filterMap (fun i => wW[i]?))) (w1 := wq) hP hD isC isR hC hR hn hdis hk1 hFc hP1 hD1
  rw [show r = rv from hw]
  exact kk H1 locs1 (hP2.sub pm (hh_fm h2)) (hD2.sub pm hn2 h2) hS
end HX
