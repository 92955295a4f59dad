-- the law's world: bench, its row of loops, the row for answers, three loops, the reference
def wG (cI cJ cO : ClassId) (adU : Nat) (uo : Nat → Int64) (adB adA : Nat) (lf : Nat → Option Nat) (bs : Int32) (a : AT × AT × AT) (T : LT × LT × LT) (wr : va_W) : va_W := [zX5 adB adA bs, zAL cO adA 3 lf, zAJ cJ adU 1 uo] ++ (wL cI cJ a.1 T.1 ++ (wL cI cJ a.2.1 T.2.1 ++ (wL cI cJ a.2.2 T.2.2 ++ wr)))
def ofL {α : Type} (T : LT × LT × LT) (lp : Int32) (f : LT → α) (d : α) : α := if lp = 0 then f T.1 else if lp = 1 then f T.2.1 else if lp = 2 then f T.2.2 else d
def onL (T : LT × LT × LT) (lp : Int32) (f : LT → LT) : LT × LT × LT := if lp = 0 then (f T.1, T.2.1, T.2.2) else if lp = 1 then (T.1, f T.2.1, T.2.2) else if lp = 2 then (T.1, T.2.1, f T.2.2) else T
theorem ofL_0 {α : Type} (T : LT × LT × LT) (f : LT → α) (d : α) : ofL T 0 f d = f T.1 := if_pos rfl
theorem ofL_1 {α : Type} (T : LT × LT × LT) (f : LT → α) (d : α) : ofL T 1 f d = f T.2.1 := (if_neg (by decide)).trans (if_pos rfl)
theorem ofL_2 {α : Type} (T : LT × LT × LT) (f : LT → α) (d : α) : ofL T 2 f d = f T.2.2 := (if_neg (by decide)).trans ((if_neg (by decide)).trans (if_pos rfl))
theorem onL_0 (T : LT × LT × LT) (f : LT → LT) : onL T 0 f = (f T.1, T.2.1, T.2.2) := if_pos rfl
theorem onL_1 (T : LT × LT × LT) (f : LT → LT) : onL T 1 f = (T.1, f T.2.1, T.2.2) := (if_neg (by decide)).trans (if_pos rfl)
theorem onL_2 (T : LT × LT × LT) (f : LT → LT) : onL T 2 f = (T.1, T.2.1, f T.2.2) := (if_neg (by decide)).trans ((if_neg (by decide)).trans (if_pos rfl))
theorem ofL_o {α : Type} (T : LT × LT × LT) {lp : Int32} (f : LT → α) (d : α) (h0 : ¬ lp = 0) (h1 : ¬ lp = 1) (h2 : ¬ lp = 2) : ofL T lp f d = d := by unfold ofL; rw [if_neg h0, if_neg h1, if_neg h2]
theorem onL_o (T : LT × LT × LT) {lp : Int32} (f : LT → LT) (h0 : ¬ lp = 0) (h1 : ¬ lp = 1) (h2 : ¬ lp = 2) : onL T lp f = T := by unfold onL; rw [if_neg h0, if_neg h1, if_neg h2]
theorem lp_out {lp : Int32} (h0 : ¬ lp = 0) (h1 : ¬ lp = 1) (h2 : ¬ lp = 2) : ¬ lp < (0 : Int32) → ¬ lp < (3 : Int32) := by
  intro a b
  obtain ⟨j, hj, e⟩ := nI_of2 (M := (2 : Int32)) (n := 2) (x := lp) rfl a (by
    rw [fa_le]; rw [fa_lt] at b
    have e3 : (3 : Int32).toInt = 3 := rfl
    have e2 : (2 : Int32).toInt = 2 := rfl
    omega)
  rcases (show j = 0 ∨ j = 1 ∨ j = 2 by omega) with rfl | rfl | rfl
  · exact h0 e
  · exact h1 e
  · exact h2 e
theorem pe_0 (h w0 w1 w2 wr : va_W) : (h ++ (w0 ++ (w1 ++ (w2 ++ wr)))).Perm ((h ++ w0) ++ (w1 ++ (w2 ++ wr))) := by rw [List.append_assoc]
theorem pe_1 (h w0 w1 w2 wr : va_W) : (h ++ (w0 ++ (w1 ++ (w2 ++ wr)))).Perm ((h ++ w1) ++ (w0 ++ (w2 ++ wr))) := by rw [List.append_assoc]; exact (List.perm_append_comm_assoc w0 w1 (w2 ++ wr)).append_left h
theorem pe_2 (h w0 w1 w2 wr : va_W) : (h ++ (w0 ++ (w1 ++ (w2 ++ wr)))).Perm ((h ++ w2) ++ (w0 ++ (w1 ++ wr))) := by
  rw [List.append_assoc]
  exact (((List.perm_append_comm_assoc w1 w2 wr).append_left w0).trans (List.perm_append_comm_assoc w0 w2 (w1 ++ wr))).append_left h
theorem pe_r (x y z : Nat × va_E) (w0 w1 w2 wr : va_W) : ([x, y, z] ++ (w0 ++ (w1 ++ (w2 ++ wr)))).Perm ((z :: ([x, y] ++ (w0 ++ (w1 ++ w2)))) ++ wr) := by
  have h : (z :: ([x, y] ++ (w0 ++ (w1 ++ w2)))) ++ wr = z :: ([x, y] ++ (w0 ++ (w1 ++ (w2 ++ wr)))) := by simp only [List.cons_append, List.append_assoc]
  rw [h]
  exact List.perm_middle (l₁ := [x, y])
theorem pe_m (h w0 w1 w2 wr : va_W) : (h ++ (w0 ++ (w1 ++ (w2 ++ wr)))).Perm ((h ++ (w0 ++ (w1 ++ w2))) ++ wr) := by simp only [List.append_assoc]; exact List.Perm.refl _
theorem pm_P {D : va_G} {w v : va_W} {H : Heap} (hp : w.Perm v) (h : va_P D vwCl w H) : va_P D vwCl v H := fun k q hk => by
  obtain ⟨i, hi, e⟩ := List.mem_iff_getElem.mp (hp.mem_iff.mpr (List.mem_of_getElem? hk))
  exact h i q (by rw [List.getElem?_eq_getElem hi, e])
theorem pw_D {A : Nat → Prop} {w : va_W} : va_D A w ↔ w.Pairwise (fun p q => p.1 ≠ q.1) ∧ ∀ q ∈ w, A q.1 := by
  constructor
  · intro h
    refine ⟨List.pairwise_iff_getElem.mpr (fun i j hi hj hij he => ?_), fun q hq => ?_⟩
    · exact absurd (h.1 i j _ _ (List.getElem?_eq_getElem hi) (List.getElem?_eq_getElem hj) he) (Nat.ne_of_lt hij)
    · obtain ⟨i, hi, e⟩ := List.mem_iff_getElem.mp hq
      exact h.2 i q (by rw [List.getElem?_eq_getElem hi, e])
  · intro h
    refine ⟨fun i j p q hi hj he => ?_, fun k q hk => h.2 q (List.mem_of_getElem? hk)⟩
    obtain ⟨hi1, hi2⟩ := List.getElem?_eq_some_iff.mp hi
    obtain ⟨hj1, hj2⟩ := List.getElem?_eq_some_iff.mp hj
    have hp := List.pairwise_iff_getElem.mp h.1
    rcases Nat.lt_trichotomy i j with c | c | c
    · exact absurd (by rw [hi2, hj2]; exact he) (hp i j hi1 hj1 c)
    · exact c
    · exact absurd (by rw [hi2, hj2]; exact he.symm) (hp j i hj1 hi1 c)
theorem pm_D {A : Nat → Prop} {w v : va_W} (hp : w.Perm v) (h : va_D A w) : va_D A v := by
  rw [pw_D] at h ⊢
  exact ⟨(hp.pairwise_iff (fun h => Ne.symm h)).mp h.1, fun q hq => h.2 q (hp.mem_iff.mpr hq)⟩
section LP
variable {p : Program} {l : Launch} {e : Env} {R : Room} {s : State} {m : MethodId} {args : Array Value} {below : List Frame} {meth : Method} {c : Code} {H : Heap} {locs : List Loc} {cells slots mc ms kc ks : Nat} {Q : State → Prop} {cc : ByteArray} {pc : Nat} {ls : Array Slot} {rest st0 As : List Value}
variable {D : va_G} {w0 w1 wl wr wq : va_W} {tys : List (ClassId × FieldType)} {A0 : Nat → Prop} {H0 : Heap} {G : State → Prop} {X9 : Array Value}
theorem lw_Lp {rv : Int32} (hr : va_Run p l e R s m args below meth c H locs cells slots mc ms (F0 m pc ls st0) rest (va_Qi (fun r (_ : Unit) => r = rv) (fun _ t => gB D (va_A wl H.size) wq tys t) (va_A wl H.size) X9) (va_A wl H.size)) (hp : w0.Perm (wl ++ wr)) (hp2 : w1.Perm (wq ++ wr)) (hP : va_P D vwCl w0 H) (hD : va_D A0 w0) (hS : va_S A0 H0 H locs) (hA : ∀ q, H0.size ≤ q → A0 q) (hkc : mc ≤ kc) (hks : ms ≤ ks)
    (kk : ∀ (H1 : Heap) (locs1 : List Loc), va_P D vwCl w1 H1 → va_D A0 w1 → va_S A0 H0 H1 locs1 → W p l e R s m args below meth c H1 locs1 (cells + kc) (slots + ks) Q (F0 m (pc + 3) ls (.int rv :: rest))) : W p l e R s m args below meth c H locs cells slots Q (F0 m pc ls st0) :=
  lw_Li hr (pm_P hp hP) (pm_D hp hD) hS hA (fun H1 locs1 hP1 hD1 hS1 => W.widen (Nat.add_le_add_left hkc _) (Nat.add_le_add_left hks _) (kk H1 locs1 (pm_P hp2.symm hP1) (pm_D hp2.symm hD1) hS1))
theorem lw_Lq (hG1 : ∀ (U : State) (g : JFrame) (mk : MethodId) (a : Array Value), G U → G (U.calling g mk a)) (hG2 : ∀ U : State, U.heap = H → s.WarmedH U.vm → G U) (hK : va_K D vwCl tys s) (hp : w0.Perm (wl ++ wr)) (hP : va_P D vwCl w0 H) (hD : va_D A0 w0) : PreS s H (va_Pc As (gP D wl tys H.size G)) As := lw_pL hG1 hG2 hK (pm_P hp hP) (pm_D hp hD)
theorem lw_sub (hp : w0.Perm (wl ++ wr)) (hD : va_D A0 w0) (hS : va_S A0 H0 H locs) (hA : ∀ q, H0.size ≤ q → A0 q) : ∀ q, va_A wl H.size q → A0 q := fun q h => ap_A h (ap_DL (pm_D hp hD)) (fun q hq => hA q (Nat.le_trans hS.1 hq))
end LP
/-- what stands all through the law -/
def KX (p : Program) (l : Launch) (s : State) (m : MethodId) (meth : Method) (c : Code) (b L : Nat) (xs : Nat → Int32) (D : va_G) (cI cJ cZ cO : ClassId) (lf : Nat → Option Nat) (a : AT × AT × AT) : Prop :=
  p.tables.exec = Jvm.exec ∧ c.code = code ∧ meth.sig.returnType = ret ∧ c.maxLocals = 8 ∧ s.vm.findClass RL = some m.cls ∧ (∀ w ∈ wAll, w.before #[Value.ref b] s = true) ∧ va_X b L xs s s.heap ∧ b < s.heap.size ∧ meth.locks = false ∧ gW (fun q => s.heap.size ≤ q) s ∧ l.stackTraces = false ∧ va_K D vwCl (tyG cI cJ cZ cO) s ∧ lf (0 : Int32).toNatClampNeg = some (ya_adL a.1) ∧ lf (1 : Int32).toNatClampNeg = some (ya_adL a.2.1) ∧ lf (2 : Int32).toNatClampNeg = some (ya_adL a.2.2) ∧ L ≤ 3072
theorem lw_in {i j L : Nat} (hj : j ≤ 5) (hi : i + 6 ≤ L) (hL : L ≤ 3072) : vp_in (nI i + nI j) L := by
  have h : nI i + nI j = nI (i + j) := by unfold nI; exact (Int32.ofNat_add i j).symm
  rw [h]
  exact vp_in_nI (by omega) (by omega)
def bz (x : Int32) : Int32 := if x = 0 then 0 else 1
def bzl (x : Int32) : Int64 := if x = 0 then 0 else 1
theorem bz_n (x : Int32) : narrow .boolean (.int (bz x)) = .int (bz x) := by unfold bz; split <;> rfl
