def pu : Option Value → List Value → List Value
  | none, st => st
  | some v, st => v :: st
theorem gin {ws : List Cond} (hw : ∀ w ∈ ws, w ∈ tb) : GoodIn tb ws := fun w h => ⟨hw w h, good_of_word (tb_good w (hw w h))⟩
theorem gin_M {M : MD} (hw : Cond.code M.1 M.2.1 M.2.2.1 M.2.2.2.1 ∈ tb) : GoodIn tb (wsM M) := gin fun w h => by
  rcases List.mem_cons.mp h with rfl | h
  · exact hw
  · exact h
theorem Pre.blind {E : Ev} {n : Nat} {h : HP} {vs : List Value} : FrameBlind (va_Pc (vs.map (tV E)) (Pre E n h)) := fun a U g mk q => ⟨q.1, q.2.1, q.2.2.1.call, q.2.2.2⟩
theorem Pre.at {E : Ev} {n : Nat} {h : HP} {s0 U : State} {H : Heap} {locs : List Loc} (hG : Gx E s0 s0.heap) (hS : Sx E s0 H locs) (hH : HR E n h H) (hU : U.heap = H) (hW : s0.WarmedH U.vm) : Pre E n h U :=
  ⟨by rw [hU]; exact hH, hG.go hW (fun q hq => by rw [hU]; exact hS.2.1 q hq), by rw [hU, hH.1]; exact Nat.le_add_right _ _⟩
/-- what a call asks of the callee's words, arguments and room -/
def kB (M' : MD) (na : Nat) : Prop := Cond.initialized M'.1.cls ∈ tb ∧ Cond.code M'.1 M'.2.1 M'.2.2.1 M'.2.2.2.1 ∈ tb ∧ (M'.1.cls ≠ "java/lang/invoke/MethodHandle" ∧ M'.1.cls ≠ "java/lang/invoke/VarHandle" ∧ (parseMethodDescriptor M'.1.desc).map (fun d => d.parameters.length) = some na) ∧ M'.2.2.1 ≤ 45
def kS (own : String) (idx : Nat) (M' : MD) (na : Nat) : Prop := kB M' na ∧ Cond.methodLink own idx M'.1 ∈ tb ∧ Cond.static M'.1 ∈ tb
def kV (own : String) (idx ci : Nat) (M' : MD) (na : Nat) : Prop := kB M' na ∧ Cond.methodLink own idx M'.1 ∈ tb ∧ Cond.instanceMethod M'.1 ∈ tb ∧ Cond.selects M'.1.cls M'.1 M'.1 ∈ tb ∧ ∃ r : vw_C, cls[ci]? = some r ∧ r.1 = M'.1.cls
def kI (own : String) (idx : Nat) (M' : MD) (na : Nat) : Prop := kB M' na ∧ Cond.methodLink own idx M'.1 ∈ tb ∧ Cond.instanceMethod M'.1 ∈ tb ∧ M'.1.name = "<init>" ∧ M'.2.2.2.1 = none
def kSN (own : String) (idx : Nat) (M' : MD) (na : Nat) : Prop := kB M' na ∧ (∃ host, (own, idx, M'.1, host) ∈ nls) ∧ Cond.static M'.1 ∈ tb
def kVN (own : String) (idx ci : Nat) (M' : MD) (na : Nat) : Prop := kB M' na ∧ (∃ host, (own, idx, M'.1, host) ∈ nls) ∧ Cond.instanceMethod M'.1 ∈ tb ∧ Cond.selects M'.1.cls M'.1 M'.1 ∈ tb ∧ ∃ r : vw_C, cls[ci]? = some r ∧ r.1 = M'.1.cls
/-- super.m(..): the object's own class is ci's -/
def kSU (own : String) (idx : Nat) (M' : MD) (na : Nat) : Prop := kB M' na ∧ Cond.methodLink own idx M'.1 ∈ tb ∧ Cond.sameMethod M'.1.cls M'.1.cls M'.1.name M'.1.desc ∈ tb ∧ Cond.superclass own M'.1.cls ∈ tb ∧ Cond.instanceMethod M'.1 ∈ tb ∧ M'.1.name ≠ "<init>"
/-- a call by the name x, declared by owner; an object of the class ci runs M' -/
def kU (own : String) (idx ci : Nat) (owner : String) (x : MethodName) (M' : MD) (na : Nat) : Prop := kB M' na ∧ Cond.methodLink own idx x ∈ tb ∧ Cond.sameMethod x.cls owner x.name x.desc ∈ tb ∧ (owner ≠ "java/lang/invoke/MethodHandle" ∧ owner ≠ "java/lang/invoke/VarHandle") ∧ Cond.instanceMethod ⟨owner, x.name, x.desc⟩ ∈ tb ∧ (∃ b m r, Cond.code ⟨owner, x.name, x.desc⟩ b m r ∈ tb) ∧ (parseMethodDescriptor x.desc).map (fun d => d.parameters.length) = some na ∧ Cond.instanceMethod M'.1 ∈ tb ∧ ∃ r : vw_C, cls[ci]? = some r ∧ Cond.selects r.1 x M'.1 ∈ tb
section VC
variable {p : Program} {l : Launch} {e : Env} {s0 : State} {m : MethodId} {args : Array Value} {below : List Frame} {meth : Method} {cd : Code} {H : Heap} {locs : List Loc} {lm : Array Slot}
variable {M M' : MD} {d mc ms mc' ms' pc na idx : Nat} {ls : List (Nat × Value)} {st st0 vs : List Value} {n : Nat} {h : HP} {c s : Nat} {Q : QT} {E : Ev}
/-- behind a call -/
theorem run_on {R : Room} {Z : State → Prop} {stk : List Value} {a : Array Value} {Q' : QT} (hr : va_Run p l e R s0 m args below meth cd H locs c s mc' ms' (F0 m pc lm stk) (st.map (tV E)) (Pst E Q' a) (EA E)) (hS : Sx E s0 H locs)
    (kk : ∀ (r : Option Value) (n' : Nat) (h' : HP), Q' r n' h' → ∀ (H1 : Heap) (locs1 : List Loc), HR E n' h' H1 → Sx E s0 H1 locs1 → W p l e R s0 m args below meth cd H1 locs1 (c + mc') (s + ms') Z (F0 m (pc + 3) lm ((pu r st).map (tV E)))) : W p l e R s0 m args below meth cd H locs c s Z (F0 m pc lm stk) := by
  intro T hT X
  obtain ⟨v, st₀, t, T', L, h0, X', hL, e1, e2, ⟨r, n', h', hv, hq, hH, ho, hz⟩, go⟩ := hr T hT X
  cases hv
  obtain ⟨t2, a1, b1⟩ := kk r n' h' hq T'.heap (locs ++ L) (by rw [e1]; exact hH) ⟨hS.1, fun q hq => by rw [e1, ho q hq, h0]; exact hS.2.1 q hq, fun x hx => by
    rcases List.mem_append.mp hx with hx | hx
    · exact hS.2.2.1 x hx
    · exact hL x hx, by rw [e1]; rw [h0] at hz; exact Nat.le_trans hS.2.2.2 hz⟩ T' rfl X'
  refine ⟨t2, go t2 ?_, b1⟩
  cases r <;> exact a1
theorem room_ok (hl : M'.2.2.1 ≤ 45) : (rmd d mc' ms').frames + 1 ≤ (rmd (d + 1) mc ms).frames ∧ 8 + (M'.2.2.1 + 11) + (rmd d mc' ms').locals ≤ (rmd (d + 1) mc ms).locals := by
  refine ⟨Nat.le_refl _, ?_⟩
  show 8 + (M'.2.2.1 + 11) + 64 * d ≤ 64 * (d + 1)
  omega
theorem cat_sum (E : Ev) : ∀ st : List Value, ((st.map (tV E)).map fun v => v.category).sum = (st.map fun v => v.category).sum := by
  intro st
  rw [List.map_map]
  congr 1
  apply List.map_congr_left
  intro v _
  exact tV_cat E v
theorem lm_room (hw : (st.map fun v => v.category).sum ≤ 8) {stk : List Value} : 2 * (F0 m pc lm stk).monitorRoom + ((st.map (tV E)).map fun v => v.category).sum ≤ 8 := lv_room (by rw [cat_sum]; exact hw)
theorem st_eq {vs st : List Value} : (vs.reverse ++ st).map (tV E) = (vs.map (tV E)).reverse ++ st.map (tV E) := by rw [List.map_append, List.map_reverse]
theorem st_eqR {vs st : List Value} {b : Nat} : (vs.reverse ++ .ref b :: st).map (tV E) = (vs.map (tV E)).reverse ++ .ref (E.1 + b) :: st.map (tV E) := by rw [List.map_append, List.map_reverse]; rfl
theorem V.callS (hd : decode M.2.1 pc = .ok (.invokestatic idx, 3)) (K : kS M.1.cls idx M' na) (hst : st0 = vs.reverse ++ st) (hn : vs.length = na) (hw : (st.map fun v => v.category).sum ≤ 8) (hc : c + mc' ≤ mc) (hs : s + ms' ≤ ms)
    (hM : Ct l M' d mc' ms' vs n h (fun r n' h' => V l M (d + 1) mc ms (pc + 3) ls (pu r st) n' h' (c + mc') (s + ms') Q)) : V l M (d + 1) mc ms pc ls st0 n h c s Q := by
  subst hst
  intro E p e s0 m args below meth cd C hE H locs lm hH hS hl
  obtain ⟨⟨k1, k2, k3, k4⟩, k5, k6⟩ := K
  have hts := C.2.2.2.2.2.1
  refine run_on (va_runS (cc := M.2.1) (nL := M.2.2.1) (Ts := tb) (own := M.1.cls) (n := na) (As := vs.map (tV E)) ⟨C.1, C.2.1, C.2.2.1, C.2.2.2.2.1, hts⟩ (hM E) ⟨callB_of na hts (gin_M k2) rfl rfl rfl (hts _ k1) (hts _ k5) k3 (room_ok k4), hts _ k6⟩ ⟨Pre.blind, fun U hU hW => ⟨rfl, Pre.at C.2.2.2.2.2.2.2.2 hS hH hU hW⟩⟩ rfl (by rw [List.length_map]; exact hn) hl.1 st_eq (lm_room hw) hd ⟨hc, hs⟩) hS (fun r n' h' hq H1 locs1 hH1 hS1 => ?_)
  exact hq E p e s0 m args below meth cd C hE H1 locs1 lm hH1 hS1 hl
theorem V.callSN (hd : decode M.2.1 pc = .ok (.invokestatic idx, 3)) (K : kSN M.1.cls idx M' na) (hst : st0 = vs.reverse ++ st) (hn : vs.length = na) (hw : (st.map fun v => v.category).sum ≤ 8) (hc : c + mc' ≤ mc) (hs : s + ms' ≤ ms)
    (hM : Ct l M' d mc' ms' vs n h (fun r n' h' => V l M (d + 1) mc ms (pc + 3) ls (pu r st) n' h' (c + mc') (s + ms') Q)) : V l M (d + 1) mc ms pc ls st0 n h c s Q := by
  subst hst
  intro E p e s0 m args below meth cd C hE H locs lm hH hS hl
  obtain ⟨⟨k1, k2, k3, k4⟩, ⟨host, k5⟩, k6⟩ := K
  have hts := C.2.2.2.2.2.1
  refine run_on (va_runSN (cc := M.2.1) (nL := M.2.2.1) (Ts := tb) (own := M.1.cls) (n := na) (As := vs.map (tV E)) ⟨C.1, C.2.1, C.2.2.1, C.2.2.2.2.1, hts⟩ (hM E) ⟨va_cnB (host := host) na hts (gin_M k2) rfl rfl rfl (by have := C.2.2.2.2.2.2.2.2.2.2.2.2.2.2.2.2.2.1 _ k5; exact va_tabs rfl rfl this) (hts _ k1) k3 (room_ok k4), hts _ k6, trivial⟩ ⟨Pre.blind, fun U hU hW => ⟨rfl, Pre.at C.2.2.2.2.2.2.2.2 hS hH hU hW⟩⟩ rfl (by rw [List.length_map]; exact hn) hl.1 st_eq (lm_room hw) hd ⟨hc, hs⟩) hS (fun r n' h' hq H1 locs1 hH1 hS1 => ?_)
  exact hq E p e s0 m args below meth cd C hE H1 locs1 lm hH1 hS1 hl
theorem recv_at {a ci : Nat} {fs : List Value} {r : vw_C} (C : Cx M E p s0 m args meth cd) (hH : HR E n h H) (ha : h a = some (.inr (ci, fs))) (hr : cls[ci]? = some r) : ∃ cell : Cell, H[E.1 + a]? = some cell ∧ cell.vm.isStatics = false ∧ s0.vm.findClass r.1 = some cell.cls :=
  va_recv (D := E.2.2.2.1) (cl := cls) (tys := tys E) (q0 := 0) C.2.2.2.2.2.2.2.2.1 (hP1 (hH.2 _ _ ha).2) hr rfl
theorem V.callV {b ci : Nat} {fs : List Value} (hd : decode M.2.1 pc = .ok (.invokevirtual idx, 3)) (K : kV M.1.cls idx ci M' na) (hb : h b = some (.inr (ci, fs))) (hst : st0 = vs.reverse ++ .ref b :: st) (hn : vs.length = na) (hw : (st.map fun v => v.category).sum ≤ 8) (hc : c + mc' ≤ mc) (hs : s + ms' ≤ ms)
    (hM : Ct l M' d mc' ms' (.ref b :: vs) n h (fun r n' h' => V l M (d + 1) mc ms (pc + 3) ls (pu r st) n' h' (c + mc') (s + ms') Q)) : V l M (d + 1) mc ms pc ls st0 n h c s Q := by
  subst hst
  intro E p e s0 m args below meth cd C hE H locs lm hH hS hl
  obtain ⟨⟨k1, k2, k3, k4⟩, k5, k6, k7, r, k8, k9⟩ := K
  have hts := C.2.2.2.2.2.1
  refine run_on (va_runV (cc := M.2.1) (nL := M.2.2.1) (Ts := tb) (own := M.1.cls) (C := M'.1.cls) (n := na) (b := E.1 + b) (As := vs.map (tV E)) ⟨C.1, C.2.1, C.2.2.1, C.2.2.2.2.1, hts⟩ (hM E) ⟨callB_of na hts (gin_M k2) rfl rfl rfl (hts _ k1) (hts _ k5) k3 (room_ok k4), hts _ k6, hts _ k7⟩ ⟨Pre.blind, by rw [← k9]; exact recv_at C hH hb k8, fun U hU hW => ⟨rfl, Pre.at C.2.2.2.2.2.2.2.2 hS hH hU hW⟩⟩ rfl (by rw [List.length_map]; exact hn) hl.1 st_eqR (lm_room hw) hd ⟨hc, hs⟩) hS (fun r n' h' hq H1 locs1 hH1 hS1 => ?_)
  exact hq E p e s0 m args below meth cd C hE H1 locs1 lm hH1 hS1 hl
theorem V.callVN {b ci : Nat} {fs : List Value} (hd : decode M.2.1 pc = .ok (.invokevirtual idx, 3)) (K : kVN M.1.cls idx ci M' na) (hb : h b = some (.inr (ci, fs))) (hst : st0 = vs.reverse ++ .ref b :: st) (hn : vs.length = na) (hw : (st.map fun v => v.category).sum ≤ 8) (hc : c + mc' ≤ mc) (hs : s + ms' ≤ ms)
    (hM : Ct l M' d mc' ms' (.ref b :: vs) n h (fun r n' h' => V l M (d + 1) mc ms (pc + 3) ls (pu r st) n' h' (c + mc') (s + ms') Q)) : V l M (d + 1) mc ms pc ls st0 n h c s Q := by
  subst hst
  intro E p e s0 m args below meth cd C hE H locs lm hH hS hl
  obtain ⟨⟨k1, k2, k3, k4⟩, ⟨host, k5⟩, k6, k7, r, k8, k9⟩ := K
  have hts := C.2.2.2.2.2.1
  refine run_on (va_runVN (cc := M.2.1) (nL := M.2.2.1) (Ts := tb) (own := M.1.cls) (C := M'.1.cls) (n := na) (b := E.1 + b) (As := vs.map (tV E)) ⟨C.1, C.2.1, C.2.2.1, C.2.2.2.2.1, hts⟩ (hM E) ⟨va_cnB (host := host) na hts (gin_M k2) rfl rfl rfl (by have := C.2.2.2.2.2.2.2.2.2.2.2.2.2.2.2.2.2.1 _ k5; exact va_tabs rfl rfl this) (hts _ k1) k3 (room_ok k4), hts _ k6, hts _ k7⟩ ⟨Pre.blind, by rw [← k9]; exact recv_at C hH hb k8, fun U hU hW => ⟨rfl, Pre.at C.2.2.2.2.2.2.2.2 hS hH hU hW⟩⟩ rfl (by rw [List.length_map]; exact hn) hl.1 st_eqR (lm_room hw) hd ⟨hc, hs⟩) hS (fun r n' h' hq H1 locs1 hH1 hS1 => ?_)
  exact hq E p e s0 m args below meth cd C hE H1 locs1 lm hH1 hS1 hl
theorem V.callU {b ci : Nat} {fs : List Value} {owner : String} {x : MethodName} (hd : decode M.2.1 pc = .ok (.invokevirtual idx, 3)) (K : kU M.1.cls idx ci owner x M' na) (hb : h b = some (.inr (ci, fs))) (hst : st0 = vs.reverse ++ .ref b :: st) (hn : vs.length = na) (hw : (st.map fun v => v.category).sum ≤ 8) (hc : c + mc' ≤ mc) (hs : s + ms' ≤ ms)
    (hM : Ct l M' d mc' ms' (.ref b :: vs) n h (fun r n' h' => V l M (d + 1) mc ms (pc + 3) ls (pu r st) n' h' (c + mc') (s + ms') Q)) : V l M (d + 1) mc ms pc ls st0 n h c s Q := by
  subst hst
  intro E p e s0 m args below meth cd C hE H locs lm hH hS hl
  obtain ⟨⟨k1, k2, k3, k4⟩, k5, k6, k7, k8, ⟨b0, m0, r0, k9⟩, k10, k11, r, k12, k13⟩ := K
  have hts := C.2.2.2.2.2.1
  have hro := room_ok (d := d) (mc := mc) (ms := ms) (mc' := mc') (ms' := ms') k4
  refine run_on (va_runU (cc := M.2.1) (nL := M.2.2.1) (Ts := tb) (own := M.1.cls) (C := r.1) (owner := owner) (x := x) (n := na) (b := E.1 + b) (As := vs.map (tV E)) ⟨C.1, C.2.1, C.2.2.1, C.2.2.2.2.1, hts⟩ (hM E) ⟨⟨rfl, rfl, hro.1, hro.2, pay_in hts (gin_M k2), List.mem_cons_self⟩, hts _ k2, hts _ k1, k7, fun sig hsig => by rw [hsig] at k10; exact (Option.some.inj k10).symm, hts _ k5, hts _ k6, va_Decl.of (hts _ k8) (hts _ k9), hts _ k13, hts _ k11⟩ ⟨Pre.blind, recv_at C hH hb k12, fun U hU hW => ⟨rfl, Pre.at C.2.2.2.2.2.2.2.2 hS hH hU hW⟩⟩ rfl (by rw [List.length_map]; exact hn) hl.1 st_eqR (lm_room hw) hd ⟨hc, hs⟩) hS (fun r n' h' hq H1 locs1 hH1 hS1 => ?_)
  exact hq E p e s0 m args below meth cd C hE H1 locs1 lm hH1 hS1 hl
theorem V.callI {b : Nat} (hd : decode M.2.1 pc = .ok (.invokespecial idx, 3)) (K : kI M.1.cls idx M' na) (hst : st0 = vs.reverse ++ .ref b :: st) (hn : vs.length = na) (hw : (st.map fun v => v.category).sum ≤ 8) (hc : c + mc' ≤ mc) (hs : s + ms' ≤ ms)
    (hM : Ct l M' d mc' ms' (.ref b :: vs) n h (fun r n' h' => V l M (d + 1) mc ms (pc + 3) ls (pu r st) n' h' (c + mc') (s + ms') Q)) : V l M (d + 1) mc ms pc ls st0 n h c s Q := by
  subst hst
  intro E p e s0 m args below meth cd C hE H locs lm hH hS hl
  obtain ⟨⟨k1, k2, k3, k4⟩, k5, k6, k7, k8⟩ := K
  have hts := C.2.2.2.2.2.1
  obtain ⟨y, by', mx, rt, pE⟩ := M'
  dsimp only at k8
  subst k8
  refine run_on (va_runI (cc := M.2.1) (nL := M.2.2.1) (Ts := tb) (own := M.1.cls) (n := na) (b := E.1 + b) (As := vs.map (tV E)) ⟨C.1, C.2.1, C.2.2.1, C.2.2.2.2.1, hts⟩ (hM E) ⟨callB_of na hts (gin_M k2) rfl rfl rfl (hts _ k1) (hts _ k5) k3 (room_ok k4), k7, hts _ k6⟩ ⟨Pre.blind, fun U hU hW => ⟨rfl, Pre.at C.2.2.2.2.2.2.2.2 hS hH hU hW⟩⟩ rfl (by rw [List.length_map]; exact hn) hl.1 st_eqR (lm_room hw) hd ⟨hc, hs⟩) hS (fun r n' h' hq H1 locs1 hH1 hS1 => ?_)
  exact hq E p e s0 m args below meth cd C hE H1 locs1 lm hH1 hS1 hl
theorem V.callSU {b ci : Nat} {fs : List Value} {r : vw_C} (hd : decode M.2.1 pc = .ok (.invokespecial idx, 3)) (K : kSU M.1.cls idx M' na) (hb : h b = some (.inr (ci, fs))) (hr : cls[ci]? = some r) (hst : st0 = vs.reverse ++ .ref b :: st) (hn : vs.length = na) (hw : (st.map fun v => v.category).sum ≤ 8) (hc : c + mc' ≤ mc) (hs : s + ms' ≤ ms)
    (hM : Ct l M' d mc' ms' (.ref b :: vs) n h (fun r n' h' => V l M (d + 1) mc ms (pc + 3) ls (pu r st) n' h' (c + mc') (s + ms') Q)) : V l M (d + 1) mc ms pc ls st0 n h c s Q := by
  subst hst
  intro E p e s0 m args below meth cd C hE H locs lm hH hS hl
  obtain ⟨⟨k1, k2, k3, k4⟩, k5, k6, k7, k8, k9⟩ := K
  have hts := C.2.2.2.2.2.1
  have hro := room_ok (d := d) (mc := mc) (ms := ms) (mc' := mc') (ms' := ms') k4
  refine run_on (va_runSU (cc := M.2.1) (nL := M.2.2.1) (Ts := tb) (own := M.1.cls) (C := r.1) (n := na) (b := E.1 + b) (As := vs.map (tV E)) (C.2.2.2.2.2.2.2.2.1.1 ci r hr).2 ⟨C.1, C.2.1, C.2.2.1, C.2.2.2.2.1, hts⟩ (hM E) ⟨⟨rfl, rfl, hro.1, hro.2, pay_in hts (gin_M k2), List.mem_cons_self⟩, hts _ k5, hts _ k6, hts _ k7, hts _ k8, hts _ k1, hts _ k2, k9, fun sig hsig => by rw [hsig] at k3; exact (Option.some.inj k3.2.2).symm⟩ ⟨Pre.blind, recv_at C hH hb hr, fun U hU hW => ⟨rfl, Pre.at C.2.2.2.2.2.2.2.2 hS hH hU hW⟩⟩ rfl (by rw [List.length_map]; exact hn) hl.1 st_eqR (lm_room hw) hd ⟨hc, hs⟩) hS (fun r n' h' hq H1 locs1 hH1 hS1 => ?_)
  exact hq E p e s0 m args below meth cd C hE H1 locs1 lm hH1 hS1 hl
theorem V.objInit {b : Nat} (hd : decode M.2.1 pc = .ok (.invokespecial idx, 3)) (hk : Cond.methodLink M.1.cls idx Lib.objectInit ∈ tb ∧ Cond.instanceMethod Lib.objectInit ∈ tb ∧ Cond.code Lib.objectInit ⟨#[0xb1]⟩ 1 none ∈ tb) (hw : (st.map fun v => v.category).sum ≤ 8) (kk : V l M (d + 1) mc ms (pc + 3) ls st n h c s Q) : V l M (d + 1) mc ms pc ls (.ref b :: st) n h c s Q := by
  intro E p e s0 m args below meth cd C hE H locs lm hH hS hl
  have hts := C.2.2.2.2.2.1
  refine W.objInit C.1 C.2.1 C.2.2.2.2.1 (hts _ hk.1) (hts _ hk.2.1) (hts _ hk.2.2) rfl (by rw [C.2.2.1]; exact hl.1) rfl hd (Nat.succ_le_succ (Nat.zero_le _)) ?_ (kk E p e s0 m args below meth cd C hE H locs lm hH hS hl)
  have := lm_room (m := m) (pc := pc) (lm := lm) (E := E) hw (stk := (.ref b :: st).map (tV E))
  show _ ≤ 64 * (d + 1)
  omega
end VC
