section ST0
variable {p : Program} {l : Launch} {e : Env} {R : Room} {s : State} {m : MethodId} {args : Array Value} {below : List Frame} {meth : Method} {c : Code} {H : Heap} {locs : List Loc} {cells slots mc ms : Nat} {Q : State → Prop} {cc : ByteArray} {pc : Nat} {ls : Array Slot} {rest st0 As : List Value}
variable {D : va_G} {wl wr : va_W} {tys : List (ClassId × FieldType)} {A0 : Nat → Prop} {H0 : Heap} {G : State → Prop} {X9 : Array Value}
theorem lw_pRS (hG1 : ∀ (U : State) (g : JFrame) (mk : MethodId) (a : Array Value), G U → G (U.calling g mk a)) (hG2 : ∀ U : State, U.heap = H → s.WarmedH U.vm → G U) (hK : va_K D vwCl tys s) (hP : va_P D vwCl (wl ++ wr) H) (hD : va_D A0 (wl ++ wr)) : PreS s H (va_Pc As (gP D wr tys H.size G)) As :=
  ⟨hh_blind hG1, fun U hU hW => ⟨rfl, by rw [hU], by rw [hU]; exact ap_R hP, va_K.moved hW.alike hK, (ap_DR hD).weaken (fun _ _ _ _ => trivial), hG2 U hU hW⟩⟩
theorem lw_RvE {S : Type} {wq : S → va_W} (hr : va_Run p l e R s m args below meth c H locs cells slots mc ms (F0 m pc ls st0) rest (va_Qv (fun (_ : S) => True) (fun u t => gB D (va_A wr H.size) (wq u) tys t) (va_A wr H.size) X9) (va_A wr H.size)) (hP : va_P D vwCl (wl ++ wr) H) (hD : va_D A0 (wl ++ wr)) (hS : va_S A0 H0 H locs) (hA : ∀ q, H0.size ≤ q → A0 q)
    (kk : ∀ (u : S) (H1 : Heap) (locs1 : List Loc), va_P D vwCl (wl ++ wq u) H1 → va_D A0 (wl ++ wq u) → va_S A0 H0 H1 locs1 → W p l e R s m args below meth c H1 locs1 (cells + mc) (slots + ms) Q (F0 m (pc + 3) ls rest)) : W p l e R s m args below meth c H locs cells slots Q (F0 m pc ls st0) := by
  have hA2 : ∀ q, H.size ≤ q → A0 q := fun q h => hA q (Nat.le_trans hS.1 h)
  have hFc : ∀ q, va_A wr H.size q → A0 q := fun q h => ap_A h (ap_DR hD) hA2
  refine va_callv hr hS (fun q _ h => hFc q h) hFc (fun u t H1 locs1 ht hvm hw hB hz1 hk1 hS => ?_)
  obtain ⟨hP1, hK1, hD1⟩ := hB
  rw [ht] at hP1
  obtain ⟨hP2, hD2⟩ := ap_joinR hP hD hA2 hk1 hP1 hD1
  exact kk u H1 locs1 hP2 hD2 hS
theorem gO_c (U : State) (g : JFrame) (mk : MethodId) (a : Array Value) (h : gO U) : gO (U.calling g mk a) := ⟨gN_c U g mk a h.1, va_AO.moved (Vm.Alike.refl U.vm) h.2⟩
theorem gO_w {s U : State} (hW : s.WarmedH U.vm) (h : gO s) : gO U := ⟨gN_w hW h.1, va_AO.moved hW.alike h.2⟩
end ST0
def iL : LT := (0, 0, 0, 0, 0, 0, 800, 0, 200, 0, 0, 0, 0, 0, (fun _ => 0), 1000, 100, 0, 0, 100000, 0, 500, 0, 0, 0, 0, 0, 0, 0, 0, (fun _ => 0), (fun _ => 0), (fun _ => 0), (fun _ => 0), 0, 0, 0, 0, 0, 0, 0, 0, 0, 0, 0, 0)
def fwI : Nat → Int64 := (vp_updL (vp_updL (vp_updL (vp_updL (vp_updL (vp_updL (vp_updL (vp_updL (vp_updL (fun _ => 0) (0) (800 : Int64)) (2) (200 : Int64)) (6) (100000 : Int64)) (20) (800 : Int64)) (22) (200 : Int64)) (26) (100000 : Int64)) (40) (800 : Int64)) (42) (200 : Int64)) (46) (100000 : Int64))
theorem bn_w : ∀ k : Nat, k < 3 → fwI (20 * k) = 800 ∧ fwI (20 * k + 1) = 0 ∧ fwI (20 * k + 2) = 200 ∧ fwI (20 * k + 3) = 0 ∧ fwI (20 * k + 4) = 0 ∧ fwI (20 * k + 5) = 0 ∧ fwI (20 * k + 6) = 100000 ∧ fwI (20 * k + 7) = 0 ∧ fwI (20 * k + 8) = 0 ∧ fwI (20 * k + 9) = 0 ∧ fwI (20 * k + 10) = 0 ∧ fwI (20 * k + 14) = 0 ∧ fwI (20 * k + 15) = 0 := by
  intro k hk
  rcases (show k = 0 ∨ k = 1 ∨ k = 2 by omega) with rfl | rfl | rfl <;> exact ⟨rfl, rfl, rfl, rfl, rfl, rfl, rfl, rfl, rfl, rfl, rfl, rfl, rfl⟩
theorem bn_fresh {k : Nat} (hk : k < 3) : RP k iL fwI (fun _ => 0) (fun _ => 0) (fun _ => 0) := by
  obtain ⟨w0, w1, w2, w3, w4, w5, w6, w7, w8, w9, w10, w14, w15⟩ := bn_w k hk
  have z64 : Ime 0 := ⟨by decide, by decide⟩
  exact ⟨⟨w0, w1, w2, w3, w4, ⟨by decide, by decide⟩, ⟨by decide, by decide⟩, ⟨by decide, by decide⟩, ⟨0, by decide, rfl⟩, ⟨by decide, by decide⟩⟩, ⟨w5, w6, ⟨by decide, by decide, by decide⟩⟩, ⟨w7, z64⟩, ⟨w8, w9, Or.inl rfl, Or.inl rfl, fun q => absurd q (by decide), fun _ => rfl⟩, ⟨w10, z64, z64⟩, RRe_n (by decide), ⟨by decide, by decide, by decide⟩, ⟨0, 0, by decide, rfl, rfl, fun _ _ => rfl⟩, fun _ _ => z64, ⟨0, by decide, rfl, rfl, fun i hi => absurd hi (by omega), fun i hi => absurd hi (by omega)⟩, ⟨by decide, by decide, by decide, by decide, by decide, by decide⟩, RBu_0 w15, RIn_0 w14, ⟨Or.inl rfl, by decide, z64, z64⟩, Or.inl rfl⟩
