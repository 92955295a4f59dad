section LP2
variable {p : Program} {l : Launch} {e : Env} {R : Room} {s : State} {m : MethodId} {args : Array Value} {below : List Frame} {meth : Method} {c : Code} {H : Heap} {locs : List Loc} {cells slots mc ms : Nat} {Q : State → Prop} {cc : ByteArray} {pc : Nat} {ls : Array Slot} {rest st0 As : List Value}
variable {D : va_G} {w0 w1 wl wr wq : va_W} {tys : List (ClassId × FieldType)} {A0 : Nat → Prop} {H0 : Heap} {G : State → Prop} {X9 : Array Value}
theorem lw_Ri2 {rv : Int32} (hr : va_Run p l e R s m args below meth c H locs cells slots 0 0 (F0 m pc ls st0) rest (va_Qi (fun r (_ : Unit) => r = rv) (fun _ t => gB D (va_A wr H.size) wq tys t) (va_A wr H.size) X9) (va_A wr H.size)) (hp : w0.Perm (wl ++ wr)) (hp2 : w1.Perm (wl ++ wq)) (hP : va_P D vwCl w0 H) (hD : va_D A0 w0) (hS : va_S A0 H0 H locs) (hA : ∀ q, H0.size ≤ q → A0 q)
    (kk : ∀ (H1 : Heap) (locs1 : List Loc), va_P D vwCl w1 H1 → va_D A0 w1 → va_S A0 H0 H1 locs1 → W p l e R s m args below meth c H1 locs1 cells slots Q (F0 m (pc + 3) ls (.int rv :: rest))) : W p l e R s m args below meth c H locs cells slots Q (F0 m pc ls st0) :=
  lw_Ri hr (pm_P hp hP) (pm_D hp hD) hS hA (fun H1 locs1 hP1 hD1 hS1 => kk H1 locs1 (pm_P hp2.symm hP1) (pm_D hp2.symm hD1) hS1)
theorem lw_Rl2 {rv : Int64} (hr : va_Run p l e R s m args below meth c H locs cells slots 0 0 (F0 m pc ls st0) rest (va_Ql (fun r (_ : Unit) => r = rv) (fun _ t => gB D (va_A wr H.size) wq tys t) (va_A wr H.size) X9) (va_A wr H.size)) (hp : w0.Perm (wl ++ wr)) (hp2 : w1.Perm (wl ++ wq)) (hP : va_P D vwCl w0 H) (hD : va_D A0 w0) (hS : va_S A0 H0 H locs) (hA : ∀ q, H0.size ≤ q → A0 q)
    (kk : ∀ (H1 : Heap) (locs1 : List Loc), va_P D vwCl w1 H1 → va_D A0 w1 → va_S A0 H0 H1 locs1 → W p l e R s m args below meth c H1 locs1 cells slots Q (F0 m (pc + 3) ls (.long rv :: rest))) : W p l e R s m args below meth c H locs cells slots Q (F0 m pc ls st0) :=
  lw_Rl hr (pm_P hp hP) (pm_D hp hD) hS hA (fun H1 locs1 hP1 hD1 hS1 => kk H1 locs1 (pm_P hp2.symm hP1) (pm_D hp2.symm hD1) hS1)
theorem lw_Rv2 (hr : va_Run p l e R s m args below meth c H locs cells slots 0 0 (F0 m pc ls st0) rest (va_Qv (fun (_ : Unit) => True) (fun _ t => gB D (va_A wr H.size) wq tys t) (va_A wr H.size) X9) (va_A wr H.size)) (hp : w0.Perm (wl ++ wr)) (hp2 : w1.Perm (wl ++ wq)) (hP : va_P D vwCl w0 H) (hD : va_D A0 w0) (hS : va_S A0 H0 H locs) (hA : ∀ q, H0.size ≤ q → A0 q)
    (kk : ∀ (H1 : Heap) (locs1 : List Loc), va_P D vwCl w1 H1 → va_D A0 w1 → va_S A0 H0 H1 locs1 → W p l e R s m args below meth c H1 locs1 cells slots Q (F0 m (pc + 3) ls rest)) : W p l e R s m args below meth c H locs cells slots Q (F0 m pc ls st0) :=
  lw_Rv hr (pm_P hp hP) (pm_D hp hD) hS hA (fun H1 locs1 hP1 hD1 hS1 => kk H1 locs1 (pm_P hp2.symm hP1) (pm_D hp2.symm hD1) hS1)
theorem lw_Rq {b q0 ci : Nat} {q : vw_C} {fs : List Value} (hc : vwCl[ci]? = some q) (he : wr[q0]? = some (b, .inr (ci, fs))) (hG1 : ∀ (U : State) (g : JFrame) (mk : MethodId) (a : Array Value), G U → G (U.calling g mk a)) (hG2 : ∀ U : State, U.heap = H → s.WarmedH U.vm → G U) (hK : va_K D vwCl tys s) (hp : w0.Perm (wl ++ wr)) (hP : va_P D vwCl w0 H) (hD : va_D A0 w0) : PreV s H q.1 b (va_Pc (.ref b :: As) (gP D wr tys H.size G)) As := lw_pR hc he hG1 hG2 hK (pm_P hp hP) (pm_D hp hD)
theorem lw_bz {x : Int32} (hx : p.tables.exec = Jvm.exec) (hb : c.code = cc) (d0 : decode cc pc = .ok (.ifCond .eq 7, 3)) (d1 : decode cc (pc + 3) = .ok (.iconst 1, 1)) (d2 : decode cc (pc + 4) = .ok (.goto 4, 3)) (d3 : decode cc (pc + 7) = .ok (.iconst 0, 1))
    (kk : W p l e R s m args below meth c H locs cells slots Q (F0 m (pc + 8) ls (.int (bz x) :: rest))) : W p l e R s m args below meth c H locs cells slots Q (F0 m pc ls (.int x :: rest)) := by
  refine lv_if_eq (tgt := pc + 7) hx hb d0 (by omega) (fun h => ?_) (fun h => ?_)
  · refine lv_iconst (v := 0) hx hb d3 rfl ?_
    rw [show bz x = 0 from if_pos h] at kk
    exact kk
  · refine lv_iconst (v := 1) hx hb d1 rfl ?_
    refine lv_goto (tgt := pc + 8) hx hb d2 (by omega) ?_
    rw [show bz x = 1 from if_neg h] at kk
    exact kk
theorem lw_bzl {x : Int32} (hx : p.tables.exec = Jvm.exec) (hb : c.code = cc) (d0 : decode cc pc = .ok (.ifCond .eq 7, 3)) (d1 : decode cc (pc + 3) = .ok (.lconst 1, 1)) (d2 : decode cc (pc + 4) = .ok (.goto 4, 3)) (d3 : decode cc (pc + 7) = .ok (.lconst 0, 1))
    (kk : W p l e R s m args below meth c H locs cells slots Q (F0 m (pc + 8) ls (.long (bzl x) :: rest))) : W p l e R s m args below meth c H locs cells slots Q (F0 m pc ls (.int x :: rest)) := by
  refine lv_if_eq (tgt := pc + 7) hx hb d0 (by omega) (fun h => ?_) (fun h => ?_)
  · refine lv_lconst (v := 0) hx hb d3 rfl ?_
    rw [show bzl x = 0 from if_pos h] at kk
    exact kk
  · refine lv_lconst (v := 1) hx hb d1 rfl ?_
    refine lv_goto (tgt := pc + 8) hx hb d2 (by omega) ?_
    rw [show bzl x = 1 from if_neg h] at kk
    exact kk
end LP2
