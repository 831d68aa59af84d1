/-! super.m(..) where the class above has m from the class above it -/
/-- x, as it is named: of the class above own; M', what runs: of the class above that one -/
def kSG (own : String) (idx : Nat) (x : MethodName) (M' : MD) (na : Nat) : Prop := kB M' na ∧ Cond.methodLink own idx x ∈ tb ∧ Cond.sameMethod x.cls M'.1.cls x.name x.desc ∈ tb ∧ Cond.superclass own x.cls ∈ tb ∧ Cond.superclass x.cls M'.1.cls ∈ tb ∧ Cond.instanceMethod M'.1 ∈ tb ∧ M'.1.name ≠ "<init>" ∧ M'.1.name = x.name ∧ M'.1.desc = x.desc
theorem sub_two {vm : Vm} {c p : ClassId} {k : Class} (hk : vm.classes[c]? = some k) (hs : k.super = some p) : vm.isSubclass c p = true := by
  have h0 : 0 < vm.classes.size := by
    rcases Nat.eq_zero_or_pos vm.classes.size with z | z
    · rw [Array.getElem?_eq_none (by omega)] at hk; cases hk
    · exact z
  obtain ⟨z, hz⟩ : ∃ z, vm.classes.size = z + 1 := ⟨vm.classes.size - 1, by omega⟩
  unfold Vm.isSubclass
  rw [hz]
  simp [Vm.isSubclassAux, hk, hs]
section VSG
variable {l : Launch} {M M' : MD} {d mc ms mc' ms' pc na idx : Nat} {ls : List (Nat × Value)} {st st0 vs : List Value} {n : Nat} {h : HP} {c s : Nat} {Q : QT}
theorem V.callSG {b ci : Nat} {fs : List Value} {r : vw_C} {x : MethodName} (hd : decode M.2.1 pc = .ok (.invokespecial idx, 3)) (K : kSG M.1.cls idx x M' na) (hb : h b = some (.inr (ci, fs))) (hr : cls[ci]? = some r) (hst : st0 = vs.reverse ++ .ref b :: st) (hn : vs.length = na) (hw : (st.map fun v => v.category).sum ≤ 8) (hc : c + mc' ≤ mc) (hs : s + ms' ≤ ms)
    (hM : Ct l M' d mc' ms' (.ref b :: vs) n h (fun r n' h' => V l M (d + 1) mc ms (pc + 3) ls (pu r st) n' h' (c + mc') (s + ms') Q)) : V l M (d + 1) mc ms pc ls st0 n h c s Q := by
  subst hst
  intro E p e s0 m args below meth cd C hE H locs lm hH hS hl
  obtain ⟨⟨k1, k2, k3, k4⟩, k5, k6, k7, k7b, k8, k9, k10, k11⟩ := K
  have hts := C.2.2.2.2.2.1
  have hro := room_ok (d := d) (mc := mc) (ms := ms) (mc' := mc') (ms' := ms') k4
  obtain ⟨hfc, kB, hkB, -⟩ := (C.2.2.2.2.2.2.2.2.1.1 ci r hr).2
  obtain ⟨cellB, hcB, hoB, hclB⟩ := recv_at C hH hb hr
  have hkB' : s0.vm.classes[cellB.cls]? = some kB := by rw [Option.some.inj (hclB.symm.trans hfc)]; exact hkB
  have hpay := pay_in hts (gin_M k2)
  have hini := hts _ k1
  have hcode := hts _ k2
  refine run_on (Q' := (fun r n' h' => V l M (d + 1) mc ms (pc + 3) ls (pu r st) n' h' (c + mc') (s + ms') Q)) (mc' := mc') (ms' := ms') (a := (Value.ref (E.1 + b) :: vs.map (tV E)).toArray) (R := rmd (d + 1) mc ms) ?_ hS (fun r n' h' hq H1 locs1 hH1 hS1 => hq E p e s0 m args below meth cd C hE H1 locs1 lm hH1 hS1 hl)
  have hK : Back l (rmd (d + 1) mc ms) p e below s0 args M'.1 3 8 (PreOf (rmd (d + 1) mc ms) mc' ms' (va_Pc ((Value.ref b :: vs).map (tV E)) (Pre E n h))) (PostOf (Pst E (fun r n' h' => V l M (d + 1) mc ms (pc + 3) ls (pu r st) n' h' (c + mc') (s + ms') Q)) mc' ms' (EA E)) :=
    back_of (bytes := M'.2.1) (maxL := M'.2.2.1) (ret := M'.2.2.2.1) (hM E) Pre.blind rfl rfl hro.1 hro.2 hpay List.mem_cons_self (fun a' U hW => word_at hW (Or.inl (by first | rfl | simp [Cond.onTables, Cond.keeps, Cond.steady])) hini)
  intro T hT X
  obtain ⟨mk, methM, hnamed, hmethM, hstM, habM⟩ := Cond.instanceMethod_spec (hts _ k8)
  obtain ⟨methM', cM, hmethM', -, -, -, -, -, -, hsigM⟩ := Cond.code_spec hnamed hcode
  cases hmethM.symm.trans hmethM'
  obtain ⟨ps, dk, kp, hps, hdk, hkp, hsuper, -, -, hnid⟩ := Cond.superclass_spec C.2.2.2.2.1 (hts _ k7)
  obtain ⟨pq, dq, kq, hpq, hdq, hkq, hsuperq, -, -, -⟩ := Cond.superclass_spec hps (hts _ k7b)
  have hn' : s0.methodNamed? ⟨M'.1.cls, x.name, x.desc⟩ = some mk := by rw [← k10, ← k11]; exact hnamed
  have hpm : pq = mk.cls := Option.some.inj (hpq.symm.trans (findClass_of_methodNamed hnamed))
  have hsub : s0.vm.isSubclass ps mk.cls = true := by rw [← hpm]; exact sub_two hdq hsuperq
  have hlen : (vs.map (tV E)).length = methM.sig.parameters.length := by
    rw [List.length_map, hn]
    have h3 := k3.2.2
    rw [hsigM] at h3
    exact (Option.some.inj h3).symm
  have hstk : (F0 m pc lm ((vs.reverse ++ .ref b :: st).map (tV E))).stack = (vs.map (tV E)).reverse ++ .ref (E.1 + b) :: st.map (tV E) := st_eqR
  obtain ⟨vm₁, X₁, hstep₁⟩ := X.invokespecialUp C.1 C.2.2.2.2.1 (hts _ k5) (hts _ k6) hn' hmethM hstM habM (by rw [← k10]; exact k9) hdk hnid hps hsuper hsub (a := E.1 + b) (cell := cellB) (by rw [hT]; exact hcB)
    (fun z h => by rw [h] at hoB; cases hoB) hkB' (g := F0 m pc lm ((vs.reverse ++ .ref b :: st).map (tV E))) rfl (argsL := vs.map (tV E)) (rest := st.map (tV E)) hlen hstk (by rw [C.2.1]; exact hd)
  obtain ⟨v, ⟨U', l2, c2, s2⟩, X', ⟨g', mk', t, L, e1, e2, hq, h1, hL, h2, h3⟩, hsteps⟩ := hK m meth cd ⟨T.setVm vm₁, locs, c, s⟩ { F0 m pc lm ((vs.reverse ++ .ref b :: st).map (tV E)) with stack := st.map (tV E) } (.invokespecial idx) mk (Value.ref (E.1 + b) :: vs.map (tV E)).toArray X₁ rfl (by show lm.size = _; rw [C.2.2.1]; exact hl.1) (by rw [C.2.1]; exact hd) (lm_room hw) (X₁.named hnamed) ⟨hc, hs, rfl, Pre.at (U := T.setVm vm₁) C.2.2.2.2.2.2.2.2 hS hH hT X₁.warmed⟩
  dsimp only [Pt.U, Pt.locs, Pt.cells, Pt.slots] at X' e1 e2 h1 h2 h3 hsteps
  subst h1; subst h2; subst h3
  exact ⟨v, (T.setVm vm₁).calling g' mk' (Value.ref (E.1 + b) :: vs.map (tV E)).toArray, t, U', L, hT, X', hL, e1, e2, hq, fun target h => hstep₁ _ (by rw [doInvoke_state]; exact hsteps.trans h)⟩
end VSG
