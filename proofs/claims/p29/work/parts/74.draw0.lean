-- the script, drawn from
def gX (b L : Nat) (xs : Nat → Int32) (U : State) : Prop := gO U ∧ va_X b L xs U U.heap ∧ b < U.heap.size
theorem gX_c {b L : Nat} {xs : Nat → Int32} (U : State) (g : JFrame) (mk : MethodId) (a : Array Value) (h : gX b L xs U) : gX b L xs (U.calling g mk a) := by
  refine ⟨⟨gN_c U g mk a h.1.1, va_AO.moved (Vm.Alike.refl U.vm) h.1.2⟩, ?_, h.2.2⟩
  exact va_X.moved (Vm.Alike.refl U.vm) h.2.1
theorem gX_w {b L : Nat} {xs : Nat → Int32} {s U : State} {A : Nat → Prop} {H : Heap} {locs : List Loc} (hS : va_S A s.heap H locs) (hbA : ¬ A b) (h : gX b L xs s) (hU : U.heap = H) (hW : s.WarmedH U.vm) : gX b L xs U := by
  refine ⟨⟨gN_w hW h.1.1, va_AO.moved hW.alike h.1.2⟩, ?_, ?_⟩
  · rw [hU]
    exact va_X.moved hW.alike (va_X.kept h.2.1 (hS.2.1 b h.2.2 hbA))
  · rw [hU]
    exact Nat.lt_of_lt_of_le h.2.2 hS.1
section DR
variable {p : Program} {l : Launch} {e : Env} {R : Room} {s : State} {m : MethodId} {args : Array Value} {below : List Frame} {meth : Method} {c : Code} {H : Heap} {locs : List Loc} {cells slots mc ms : Nat} {Q : State → Prop} {cc : ByteArray} {pc : Nat} {ls : Array Slot} {rest st0 As : List Value}
variable {D : va_G} {w0 w1 wl wr : va_W} {tys : List (ClassId × FieldType)} {A A0 : Nat → Prop} {H0 : Heap} {G : State → Prop} {X9 : Array Value}
theorem lw_Er {post : Int32 → Unit → Prop} (hr : va_Run p l e R s m args below meth c H locs cells slots mc ms (F0 m pc ls st0) rest (va_Qi post (fun _ t => gB D (va_A [] H.size) [] tys t) (va_A [] H.size) X9) (va_A [] H.size)) (hP : va_P D vwCl w0 H) (hD : va_D A0 w0) (hS : va_S A0 H0 H locs) (hA : ∀ q, H0.size ≤ q → A0 q)
    (kk : ∀ (r : Int32) (H1 : Heap) (locs1 : List Loc), post r () → va_P D vwCl w0 H1 → va_D A0 w0 → va_S A0 H0 H1 locs1 → W p l e R s m args below meth c H1 locs1 (cells + mc) (slots + ms) Q (F0 m (pc + 3) ls (.int r :: rest))) : W p l e R s m args below meth c H locs cells slots Q (F0 m pc ls st0) :=
  lw_RS (S := Unit) (wl := w0) (wr := []) (wq := fun _ => []) hr (lw_E0 hP) (by rw [List.append_nil]; exact hD) hS hA (fun r u H1 locs1 h1 h2 h3 h4 => kk r H1 locs1 h1 (by rw [List.append_nil] at h2; exact h2) hD h4)
theorem hh_retI {S : Type} {post : Int32 → S → Prop} {w : S → va_W} {v : Int32} (u : S) (hQ : Q = MQ below (va_Qi post (fun u t => gB D A (w u) tys t) A) args s cells slots A) (hv : post v u) (hx : p.tables.exec = Jvm.exec) (hb : c.code = cc) (hr : meth.sig.returnType = some .int) (hlocks : meth.locks = false) (hP : va_P D vwCl (w u) H) (hK : va_K D vwCl tys s) (hD : va_D A (w u)) (hS : va_S A s.heap H locs) (hdg : decode cc pc = .ok (.ireturn, 1)) : W p l e R s m args below meth c H locs cells slots Q (F0 m pc ls [.int v]) := by
  subst hQ
  exact W.iret (v := v) hx hb hr (fun t ht hW => ⟨⟨v, u, rfl, hv, by rw [ht]; exact hP, va_K.moved hW.alike hK, hD⟩, hS.F ht⟩) hS.2.2 hdg hlocks
end DR
theorem nA_of {b : Nat} {sz : Nat} (h : b < sz) : ¬ va_A [] sz b := by
  intro q
  rcases q with ⟨k, e, z⟩ | z
  · simp at z
  · omega
