-- p29's law: numbers, its world, rows for its arrays, its own calls, its ends
theorem nI_mul (a b : Nat) : nI a * nI b = nI (a * b) := (Int32.ofNat_mul a b).symm
theorem lwAdd {a b c : Nat} (h : c = a + b) : nI c = nI a + nI b := by rw [h, nI_add]
theorem lwMul {a b c : Nat} (h : c = a * b) : nI c = nI a * nI b := by rw [h, nI_mul]
theorem lwSub {a b c : Nat} (h : a = c + b) : nI c = nI a - nI b := by
  subst h
  rw [← nI_add]
  exact (Int32.add_sub_cancel (nI c) (nI b)).symm
theorem lwAtL {f : Nat → Int64} {e : Nat} (h : e < 1000) : f e = f (nI e).toNatClampNeg := by rw [nI_clamp (by omega)]
theorem lwAtI {f : Nat → Int32} {e : Nat} (h : e < 1000) : f e = f (nI e).toNatClampNeg := by rw [nI_clamp (by omega)]
theorem dv_32 {a b : Nat} (ha : a < 2 ^ 31) (hb : 0 < b) (hb2 : b < 2 ^ 31) : nI a / nI b = nI (a / b) := by
  have e1 : (nI a).toInt = (a : Int) := nI_toInt ha
  have e2 : (nI b).toInt = (b : Int) := nI_toInt hb2
  have e3 : (nI (a / b)).toInt = ((a / b : Nat) : Int) := nI_toInt (Nat.lt_of_le_of_lt (Nat.div_le_self a b) ha)
  rw [fa_eq, Int32.toInt_div_of_ne_right _ _ (fun q => by rw [q] at e2; have e4 : (-1 : Int32).toInt = -1 := rfl; rw [e4] at e2; omega), e1, e2, e3]
  exact Int.ofNat_tdiv a b |>.symm
theorem lwDiv {a b c : Nat} (ha : a < 2 ^ 31) (hb : 0 < b) (hb2 : b < 2 ^ 31) (h : c = a / b) : nI c = nI a / nI b := by rw [h, dv_32 ha hb hb2]
theorem lwMod {a b c : Nat} (ha : a < 2 ^ 31) (hb : 0 < b) (hb2 : b < 2 ^ 31) (h : c = a % b) : nI c = nI a - nI a / nI b * nI b := by
  rw [dv_32 ha hb hb2, nI_mul]
  refine lwSub ?_
  rw [h, Nat.add_comm, Nat.mul_comm]
  exact (Nat.div_add_mod a b).symm
theorem nI_ne (b : Nat) (hb : 0 < b) (hb2 : b < 2 ^ 31) : ¬ nI b = 0 := nI_ne0 hb hb2
theorem lwDec {a b : Nat} (h : a = b + 1) : nI a + Int32.ofInt (-1) = nI b := by
  subst h
  rw [nI_succ, Int32.add_assoc]
  have h1 : (1 : Int32) + Int32.ofInt (-1) = 0 := by decide
  rw [h1, Int32.add_zero]
theorem t3264 (x : Int32) : x.toInt64.toInt32 = x := by simp
theorem u_eq (f : Nat → Int32) (i : Nat) (x : Int32) : upd f i x i = x := by simp [upd]
theorem u_ne (f : Nat → Int32) {i j : Nat} (x : Int32) (h : ¬ j = i) : upd f i x j = f j := by simp [upd, h]
theorem ul_eq (f : Nat → Int64) (i : Nat) (x : Int64) : vp_updL f i x i = x := by simp [vp_updL]
theorem ul_ne (f : Nat → Int64) {i j : Nat} (x : Int64) (h : ¬ j = i) : vp_updL f i x j = f j := by simp [vp_updL, h]
def upT (T : Nat → LT) (k : Nat) (s : LT) : Nat → LT := fun j => if j = k then s else T j
theorem upT_s (T : Nat → LT) (k : Nat) : upT T k (T k) = T := by
  funext j
  unfold upT
  by_cases h : j = k
  · rw [if_pos h, h]
  · rw [if_neg h]
theorem upT_e (T : Nat → LT) (k : Nat) (s : LT) : upT T k s k = s := if_pos rfl
theorem upT_n (T : Nat → LT) {j k : Nat} (s : LT) (h : ¬ j = k) : upT T k s j = T j := if_neg h
/-- the bench: its own cells, its row of loops, three loops -/
def wB (cI cJ cO : ClassId) (adB adA : Nat) (lf : Nat → Option Nat) (bs : Int32) (a : Nat → AT) (T : Nat → LT) : va_W := [zX5 adB adA bs, zAL cO adA 3 lf] ++ (wL cI cJ (a 0) (T 0) ++ (wL cI cJ (a 1) (T 1) ++ wL cI cJ (a 2) (T 2)))
theorem pf_0 (x h w0 w1 w2 : va_W) : (x ++ (h ++ (w0 ++ (w1 ++ w2)))).Perm ((x ++ (w1 ++ w2)) ++ (h ++ w0)) := by
  rw [List.append_assoc x]
  refine List.Perm.append_left x ?_
  rw [← List.append_assoc h w0]
  exact List.perm_append_comm
theorem pf_1 (x h w0 w1 w2 : va_W) : (x ++ (h ++ (w0 ++ (w1 ++ w2)))).Perm ((x ++ (w0 ++ w2)) ++ (h ++ w1)) := by
  rw [List.append_assoc x]
  refine List.Perm.append_left x ?_
  refine ((List.perm_append_comm_assoc w0 w1 w2).append_left h).trans ?_
  rw [← List.append_assoc h w1]
  exact List.perm_append_comm
theorem pf_2 (x h w0 w1 w2 : va_W) : (x ++ (h ++ (w0 ++ (w1 ++ w2)))).Perm ((x ++ (w0 ++ w1)) ++ (h ++ w2)) := by
  rw [List.append_assoc x]
  refine List.Perm.append_left x ?_
  have h1 : (w0 ++ (w1 ++ w2)).Perm (w2 ++ (w0 ++ w1)) := by rw [← List.append_assoc]; exact List.perm_append_comm
  refine (h1.append_left h).trans ?_
  rw [← List.append_assoc h w2]
  exact List.perm_append_comm
theorem wB_perm (hw : va_W) (cI cJ cO : ClassId) (adB adA : Nat) (lf : Nat → Option Nat) (bs : Int32) (a : Nat → AT) (T : Nat → LT) {k : Nat} (hk : k < 3) : ∃ wl : va_W, ∀ s : LT, (hw ++ wB cI cJ cO adB adA lf bs a (upT T k s)).Perm (wl ++ ([zX5 adB adA bs, zAL cO adA 3 lf] ++ wL cI cJ (a k) s)) := by
  rcases (show k = 0 ∨ k = 1 ∨ k = 2 by omega) with rfl | rfl | rfl
  · exact ⟨hw ++ (wL cI cJ (a 1) (T 1) ++ wL cI cJ (a 2) (T 2)), fun s => pf_0 hw _ (wL cI cJ (a 0) s) (wL cI cJ (a 1) (T 1)) (wL cI cJ (a 2) (T 2))⟩
  · exact ⟨hw ++ (wL cI cJ (a 0) (T 0) ++ wL cI cJ (a 2) (T 2)), fun s => pf_1 hw _ (wL cI cJ (a 0) (T 0)) (wL cI cJ (a 1) s) (wL cI cJ (a 2) (T 2))⟩
  · exact ⟨hw ++ (wL cI cJ (a 0) (T 0) ++ wL cI cJ (a 1) (T 1)), fun s => pf_2 hw _ (wL cI cJ (a 0) (T 0)) (wL cI cJ (a 1) (T 1)) (wL cI cJ (a 2) s)⟩
theorem pm_P {D : va_G} {w v : va_W} {H : Heap} (hp : w.Perm v) (h : va_P D vwCl w H) : va_P D vwCl v H := fun k q hk => by
  obtain ⟨i, hi, e⟩ := List.mem_iff_getElem.mp (hp.mem_iff.mpr (List.mem_of_getElem? hk))
  exact h i q (by rw [List.getElem?_eq_getElem hi, e])
theorem pw_D {A : Nat → Prop} {w : va_W} : va_D A w ↔ w.Pairwise (fun p q => p.1 ≠ q.1) ∧ ∀ q ∈ w, A q.1 := by
  constructor
  · intro h
    refine ⟨List.pairwise_iff_getElem.mpr (fun i j hi hj hij he => ?_), fun q hq => ?_⟩
    · exact absurd (h.1 i j _ _ (List.getElem?_eq_getElem hi) (List.getElem?_eq_getElem hj) he) (Nat.ne_of_lt hij)
    · obtain ⟨i, hi, e⟩ := List.mem_iff_getElem.mp hq
      exact h.2 i q (by rw [List.getElem?_eq_getElem hi, e])
  · intro h
    refine ⟨fun i j p q hi hj he => ?_, fun k q hk => h.2 q (List.mem_of_getElem? hk)⟩
    obtain ⟨hi1, hi2⟩ := List.getElem?_eq_some_iff.mp hi
    obtain ⟨hj1, hj2⟩ := List.getElem?_eq_some_iff.mp hj
    have hp := List.pairwise_iff_getElem.mp h.1
    rcases Nat.lt_trichotomy i j with c | c | c
    · exact absurd (by rw [hi2, hj2]; exact he) (hp i j hi1 hj1 c)
    · exact c
    · exact absurd (by rw [hi2, hj2]; exact he.symm) (hp j i hj1 hi1 c)
theorem pm_D {A : Nat → Prop} {w v : va_W} (hp : w.Perm v) (h : va_D A w) : va_D A v := by
  rw [pw_D] at h ⊢
  exact ⟨(hp.pairwise_iff (fun h => Ne.symm h)).mp h.1, fun q hq => h.2 q (hp.mem_iff.mpr hq)⟩
/-- what stands all through a method of the law -/
def FX (p : Program) (s : State) (m : MethodId) (c : Code) (cc : ByteArray) (nL : Nat) (args : Array Value) (D : va_G) (cI cJ cZ cO : ClassId) (lf : Nat → Option Nat) (a : Nat → AT) : Prop :=
  p.tables.exec = Jvm.exec ∧ c.code = cc ∧ c.maxLocals = nL ∧ s.vm.findClass RL = some m.cls ∧ (∀ w ∈ wAll, w.before args s = true) ∧ gN s ∧ va_K D vwCl (tyG cI cJ cZ cO) s ∧ (∀ j : Nat, j < 3 → lf (nI j).toNatClampNeg = some (ya_adL (a j)))
theorem fx_mk {p : Program} {s : State} {m : MethodId} {c : Code} {cc : ByteArray} {nL : Nat} {args : Array Value} {D : va_G} {cI cJ cZ cO : ClassId} {lf : Nat → Option Nat} {a : Nat → AT} (hx : p.tables.exec = Jvm.exec) (hb : c.code = cc) (hml : c.maxLocals = nL) (hown : s.vm.findClass RL = some m.cls) (hts : ∀ w ∈ wAll, w.before args s = true) (hG : gN s) (hK : va_K D vwCl (tyG cI cJ cZ cO) s) (hlf : ∀ j : Nat, j < 3 → lf (nI j).toNatClampNeg = some (ya_adL (a j))) : FX p s m c cc nL args D cI cJ cZ cO lf a := ⟨hx, hb, hml, hown, hts, hG, hK, hlf⟩
section LWB
variable {p : Program} {l : Launch} {e : Env} {R : Room} {s : State} {m : MethodId} {args : Array Value} {below : List Frame} {meth : Method} {c : Code} {H : Heap} {locs : List Loc} {cells slots mc ms : Nat} {Q : State → Prop} {cc : ByteArray} {pc : Nat} {ls : Array Slot} {rest st0 As : List Value}
variable {D : va_G} {w0 w1 wl wr wq : va_W} {tys : List (ClassId × FieldType)} {A A0 : Nat → Prop} {H0 : Heap} {G : State → Prop} {X9 : Array Value}
theorem lw_P2 {b q0 ci : Nat} {q : vw_C} {fs : List Value} (hc : vwCl[ci]? = some q) (he : wr[q0]? = some (b, .inr (ci, fs))) (hG1 : ∀ (U : State) (g : JFrame) (mk : MethodId) (a : Array Value), G U → G (U.calling g mk a)) (hG2 : ∀ U : State, U.heap = H → s.WarmedH U.vm → G U) (hK : va_K D vwCl tys s) (hp : w0.Perm (wl ++ wr)) (hP : va_P D vwCl w0 H) (hD : va_D A0 w0) : PreV s H q.1 b (va_Pc (.ref b :: As) (gP D wr tys H.size G)) As := lw_pR hc he hG1 hG2 hK (pm_P hp hP) (pm_D hp hD)
theorem lw_S2 (hG1 : ∀ (U : State) (g : JFrame) (mk : MethodId) (a : Array Value), G U → G (U.calling g mk a)) (hG2 : ∀ U : State, U.heap = H → s.WarmedH U.vm → G U) (hK : va_K D vwCl tys s) (hp : w0.Perm (wl ++ wr)) (hP : va_P D vwCl w0 H) (hD : va_D A0 w0) : PreS s H (va_Pc As (gP D wr tys H.size G)) As :=
  ⟨hh_blind hG1, fun U hU hW => ⟨rfl, by rw [hU], by rw [hU]; exact ap_R (pm_P hp hP), va_K.moved hW.alike hK, (ap_DR (pm_D hp hD)).weaken (fun _ _ _ _ => trivial), hG2 U hU hW⟩⟩
theorem lw_S0 (hG1 : ∀ (U : State) (g : JFrame) (mk : MethodId) (a : Array Value), G U → G (U.calling g mk a)) (hG2 : ∀ U : State, U.heap = H → s.WarmedH U.vm → G U) (hK : va_K D vwCl tys s) : PreS s H (va_Pc As (gP D [] tys H.size G)) As :=
  ⟨hh_blind hG1, fun U hU hW => ⟨rfl, by rw [hU], fun k q h => by simp at h, va_K.moved hW.alike hK, ⟨fun i j p q h => by simp at h, fun k q h => by simp at h⟩, hG2 U hU hW⟩⟩
theorem lw_Ri2 {rv : Int32} (hr : va_Run p l e R s m args below meth c H locs cells slots 0 0 (F0 m pc ls st0) rest (va_Qi (fun r (_ : Unit) => r = rv) (fun _ t => gB D (va_A wr H.size) wq tys t) (va_A wr H.size) X9) (va_A wr H.size)) (hp : w0.Perm (wl ++ wr)) (hp2 : w1.Perm (wl ++ wq)) (hP : va_P D vwCl w0 H) (hD : va_D A0 w0) (hS : va_S A0 H0 H locs) (hA : ∀ q, H0.size ≤ q → A0 q)
    (kk : ∀ (H1 : Heap) (locs1 : List Loc), va_P D vwCl w1 H1 → va_D A0 w1 → va_S A0 H0 H1 locs1 → W p l e R s m args below meth c H1 locs1 cells slots Q (F0 m (pc + 3) ls (.int rv :: rest))) : W p l e R s m args below meth c H locs cells slots Q (F0 m pc ls st0) :=
  lw_Ri hr (pm_P hp hP) (pm_D hp hD) hS hA (fun H1 locs1 hP1 hD1 hS1 => kk H1 locs1 (pm_P hp2.symm hP1) (pm_D hp2.symm hD1) hS1)
theorem lw_Rl2 {rv : Int64} (hr : va_Run p l e R s m args below meth c H locs cells slots 0 0 (F0 m pc ls st0) rest (va_Ql (fun r (_ : Unit) => r = rv) (fun _ t => gB D (va_A wr H.size) wq tys t) (va_A wr H.size) X9) (va_A wr H.size)) (hp : w0.Perm (wl ++ wr)) (hp2 : w1.Perm (wl ++ wq)) (hP : va_P D vwCl w0 H) (hD : va_D A0 w0) (hS : va_S A0 H0 H locs) (hA : ∀ q, H0.size ≤ q → A0 q)
    (kk : ∀ (H1 : Heap) (locs1 : List Loc), va_P D vwCl w1 H1 → va_D A0 w1 → va_S A0 H0 H1 locs1 → W p l e R s m args below meth c H1 locs1 cells slots Q (F0 m (pc + 3) ls (.long rv :: rest))) : W p l e R s m args below meth c H locs cells slots Q (F0 m pc ls st0) :=
  lw_Rl hr (pm_P hp hP) (pm_D hp hD) hS hA (fun H1 locs1 hP1 hD1 hS1 => kk H1 locs1 (pm_P hp2.symm hP1) (pm_D hp2.symm hD1) hS1)
theorem lw_Rv2 (hr : va_Run p l e R s m args below meth c H locs cells slots 0 0 (F0 m pc ls st0) rest (va_Qv (fun (_ : Unit) => True) (fun _ t => gB D (va_A wr H.size) wq tys t) (va_A wr H.size) X9) (va_A wr H.size)) (hp : w0.Perm (wl ++ wr)) (hp2 : w1.Perm (wl ++ wq)) (hP : va_P D vwCl w0 H) (hD : va_D A0 w0) (hS : va_S A0 H0 H locs) (hA : ∀ q, H0.size ≤ q → A0 q)
    (kk : ∀ (H1 : Heap) (locs1 : List Loc), va_P D vwCl w1 H1 → va_D A0 w1 → va_S A0 H0 H1 locs1 → W p l e R s m args below meth c H1 locs1 cells slots Q (F0 m (pc + 3) ls rest)) : W p l e R s m args below meth c H locs cells slots Q (F0 m pc ls st0) :=
  lw_Rv hr (pm_P hp hP) (pm_D hp hD) hS hA (fun H1 locs1 hP1 hD1 hS1 => kk H1 locs1 (pm_P hp2.symm hP1) (pm_D hp2.symm hD1) hS1)
/-- a call that needs no cell and makes none: an int, a long -/
theorem lw_E0 (hP : va_P D vwCl w0 H) : va_P D vwCl (w0 ++ []) H := by rw [List.append_nil]; exact hP
theorem lw_Ei {rv : Int32} (hr : va_Run p l e R s m args below meth c H locs cells slots 0 0 (F0 m pc ls st0) rest (va_Qi (fun r (_ : Unit) => r = rv) (fun _ t => gB D (va_A [] H.size) [] tys t) (va_A [] H.size) X9) (va_A [] H.size)) (hP : va_P D vwCl w0 H) (hD : va_D A0 w0) (hS : va_S A0 H0 H locs) (hA : ∀ q, H0.size ≤ q → A0 q)
    (kk : ∀ (H1 : Heap) (locs1 : List Loc), va_P D vwCl w0 H1 → va_D A0 w0 → va_S A0 H0 H1 locs1 → W p l e R s m args below meth c H1 locs1 cells slots Q (F0 m (pc + 3) ls (.int rv :: rest))) : W p l e R s m args below meth c H locs cells slots Q (F0 m pc ls st0) :=
  lw_Ri2 (wl := w0) (wr := []) (wq := []) hr (by rw [List.append_nil]) (by rw [List.append_nil]) hP hD hS hA kk
theorem lw_El {rv : Int64} (hr : va_Run p l e R s m args below meth c H locs cells slots 0 0 (F0 m pc ls st0) rest (va_Ql (fun r (_ : Unit) => r = rv) (fun _ t => gB D (va_A [] H.size) [] tys t) (va_A [] H.size) X9) (va_A [] H.size)) (hP : va_P D vwCl w0 H) (hD : va_D A0 w0) (hS : va_S A0 H0 H locs) (hA : ∀ q, H0.size ≤ q → A0 q)
    (kk : ∀ (H1 : Heap) (locs1 : List Loc), va_P D vwCl w0 H1 → va_D A0 w0 → va_S A0 H0 H1 locs1 → W p l e R s m args below meth c H1 locs1 cells slots Q (F0 m (pc + 3) ls (.long rv :: rest))) : W p l e R s m args below meth c H locs cells slots Q (F0 m pc ls st0) :=
  lw_Rl2 (wl := w0) (wr := []) (wq := []) hr (by rw [List.append_nil]) (by rw [List.append_nil]) hP hD hS hA kk
/-- a call of a method of the law whose answer and end are told by a state of its own -/
theorem lw_RS {S : Type} {post : Int32 → S → Prop} {wq : S → va_W} (hr : va_Run p l e R s m args below meth c H locs cells slots mc ms (F0 m pc ls st0) rest (va_Qi post (fun u t => gB D (va_A wr H.size) (wq u) tys t) (va_A wr H.size) X9) (va_A wr H.size)) (hP : va_P D vwCl (wl ++ wr) H) (hD : va_D A0 (wl ++ wr)) (hS : va_S A0 H0 H locs) (hA : ∀ q, H0.size ≤ q → A0 q)
    (kk : ∀ (r : Int32) (u : S) (H1 : Heap) (locs1 : List Loc), post r u → va_P D vwCl (wl ++ wq u) H1 → va_D A0 (wl ++ wq u) → va_S A0 H0 H1 locs1 → W p l e R s m args below meth c H1 locs1 (cells + mc) (slots + ms) Q (F0 m (pc + 3) ls (.int r :: rest))) : W p l e R s m args below meth c H locs cells slots Q (F0 m pc ls st0) := by
  have hA2 : ∀ q, H.size ≤ q → A0 q := fun q h => hA q (Nat.le_trans hS.1 h)
  have hFc : ∀ q, va_A wr H.size q → A0 q := fun q h => ap_A h (ap_DR hD) hA2
  refine va_calli hr hS (fun q _ h => hFc q h) hFc (fun r u t H1 locs1 ht hvm hw hB hz1 hk1 hS => ?_)
  obtain ⟨hP1, hK1, hD1⟩ := hB
  rw [ht] at hP1
  obtain ⟨hP2, hD2⟩ := ap_joinR hP hD hA2 hk1 hP1 hD1
  exact kk r u H1 locs1 hw hP2 hD2 hS
theorem hh_retS {S : Type} {post : Int32 → S → Prop} {w : S → va_W} {v : Int32} (u : S) (hQ : Q = MQ below (va_Qi post (fun u t => gB D A (w u) tys t) A) args s cells slots A) (hv : post v u) (hz : narrow .boolean (.int v) = .int v) (hx : p.tables.exec = Jvm.exec) (hb : c.code = cc) (hr : meth.sig.returnType = some .boolean) (hlocks : meth.locks = false) (hP : va_P D vwCl (w u) H) (hK : va_K D vwCl tys s) (hD : va_D A (w u)) (hS : va_S A s.heap H locs) (hdg : decode cc pc = .ok (.ireturn, 1)) : W p l e R s m args below meth c H locs cells slots Q (F0 m pc ls [.int v]) := by
  subst hQ
  exact W.zret (v := v) hx hb hr hz (fun t ht hW => ⟨⟨v, u, rfl, hv, by rw [ht]; exact hP, va_K.moved hW.alike hK, hD⟩, hS.F ht⟩) hS.2.2 hdg hlocks
/-- the law's arrays, by a natural index -/
theorem lr_ll (hx : p.tables.exec = Jvm.exec) (hb : c.code = cc) (hK : va_K D vwCl tys s) (hP : va_P D vwCl w0 H) (q0 t0 : Nat) {a : Nat} {cA : ClassId} {n e0 : Nat} {f : Nat → Int64} (ha : w0[q0]? = some (a, .inl (cA, n, .inr (.inl f)))) (ht : tys[t0]? = some (cA, .long)) (he : e0 < n) (hn : n < 1000) (hdg : decode cc pc = .ok (.laload, 1))
    (kk : W p l e R s m args below meth c H locs cells slots Q (F0 m (pc + 1) ls (.long (f e0) :: rest))) : W p l e R s m args below meth c H locs cells slots Q (F0 m pc ls (.int (nI e0) :: .ref a :: rest)) := by
  refine va_lald hx hb hK hP q0 t0 ha ht (i := nI e0) (vp_in_nI he (by omega)) hdg ?_
  rw [nI_clamp (n := e0) (by omega)]
  exact kk
theorem lr_il (hx : p.tables.exec = Jvm.exec) (hb : c.code = cc) (hK : va_K D vwCl tys s) (hP : va_P D vwCl w0 H) (q0 t0 : Nat) {a : Nat} {cA : ClassId} {n e0 : Nat} {f : Nat → Int32} (ha : w0[q0]? = some (a, .inl (cA, n, .inl f))) (ht : tys[t0]? = some (cA, .int)) (he : e0 < n) (hn : n < 1000) (hdg : decode cc pc = .ok (.iaload, 1))
    (kk : W p l e R s m args below meth c H locs cells slots Q (F0 m (pc + 1) ls (.int (f e0) :: rest))) : W p l e R s m args below meth c H locs cells slots Q (F0 m pc ls (.int (nI e0) :: .ref a :: rest)) := by
  refine va_iald hx hb hK hP q0 t0 ha ht (i := nI e0) (vp_in_nI he (by omega)) hdg ?_
  rw [nI_clamp (n := e0) (by omega)]
  exact kk
theorem lr_ls (hx : p.tables.exec = Jvm.exec) (hb : c.code = cc) (hK : va_K D vwCl tys s) (hP : va_P D vwCl w0 H) (hD : va_D A0 w0) (hS : va_S A0 H0 H locs) (q0 t0 : Nat) {a : Nat} {cA : ClassId} {n e0 : Nat} {f : Nat → Int64} {x : Int64} (ha : w0[q0]? = some (a, .inl (cA, n, .inr (.inl f)))) (ht : tys[t0]? = some (cA, .long)) (he : e0 < n) (hn : n < 1000) (hdg : decode cc pc = .ok (.lastore, 1))
    (hw : w0.set q0 (a, .inl (cA, n, .inr (.inl (vp_updL f e0 x)))) = w1)
    (kk : ∀ (H1 : Heap) (locs1 : List Loc), va_P D vwCl w1 H1 → va_D A0 w1 → va_S A0 H0 H1 locs1 → W p l e R s m args below meth c H1 locs1 cells slots Q (F0 m (pc + 1) ls rest)) : W p l e R s m args below meth c H locs cells slots Q (F0 m pc ls (.long x :: .int (nI e0) :: .ref a :: rest)) := by
  subst hw
  refine va_last hx hb hK hP hD hS q0 t0 ha ht (i := nI e0) (vp_in_nI he (by omega)) hdg (fun H1 locs1 h1 h2 h3 => ?_)
  rw [nI_clamp (n := e0) (by omega)] at h1 h2
  exact kk H1 locs1 h1 h2 h3
theorem lr_is (hx : p.tables.exec = Jvm.exec) (hb : c.code = cc) (hK : va_K D vwCl tys s) (hP : va_P D vwCl w0 H) (hD : va_D A0 w0) (hS : va_S A0 H0 H locs) (q0 t0 : Nat) {a : Nat} {cA : ClassId} {n e0 : Nat} {f : Nat → Int32} {x : Int32} (ha : w0[q0]? = some (a, .inl (cA, n, .inl f))) (ht : tys[t0]? = some (cA, .int)) (he : e0 < n) (hn : n < 1000) (hdg : decode cc pc = .ok (.iastore, 1))
    (hw : w0.set q0 (a, .inl (cA, n, .inl (upd f e0 x))) = w1)
    (kk : ∀ (H1 : Heap) (locs1 : List Loc), va_P D vwCl w1 H1 → va_D A0 w1 → va_S A0 H0 H1 locs1 → W p l e R s m args below meth c H1 locs1 cells slots Q (F0 m (pc + 1) ls rest)) : W p l e R s m args below meth c H locs cells slots Q (F0 m pc ls (.int x :: .int (nI e0) :: .ref a :: rest)) := by
  subst hw
  refine va_iast hx hb hK hP hD hS q0 t0 ha ht (i := nI e0) (vp_in_nI he (by omega)) hdg (fun H1 locs1 h1 h2 h3 => ?_)
  rw [nI_clamp (n := e0) (by omega)] at h1 h2
  exact kk H1 locs1 h1 h2 h3
end LWB
