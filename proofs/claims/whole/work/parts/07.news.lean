/-- an object that may be made here: class, slots, what its fields are at first -/
def nok (own : String) (idx ci N : Nat) (fs : List Value) : Prop := ∃ (C : String) (T : u_T) (ty : Nat → FieldType), cls[ci]? = some (C, T, N) ∧ (∀ w ∈ u_ws C T N, w ∈ tb) ∧ (∀ k, k < N → parseFieldDescriptor (T k).2.2.1 = some (ty k)) ∧ Cond.classLink own idx C ∈ tb ∧ Cond.instantiable C N ∈ tb ∧ Cond.initialized C ∈ tb ∧ ∀ (E : Ev) (j : Nat), j < N → defaultValue (ty j) = vp_V (fs.map (tV E)) j
section VN
variable {l : Launch} {M : MD} {d mc ms pc idx : Nat} {ls : List (Nat × Value)} {st : List Value} {n : Nat} {h : HP} {c s : Nat} {Q : QT}
theorem V.new {ci N : Nat} {fs : List Value} (hd : decode M.2.1 pc = .ok (.new idx, 3)) (hk : nok M.1.cls idx ci N fs) (hc : c + 1 ≤ mc) (hs : s + N ≤ ms) (kk : V l M d mc ms (pc + 3) ls (.ref n :: st) (n + 1) (up h n (.inr (ci, fs))) (c + 1) (s + N) Q) : V l M d mc ms pc ls st n h c s Q := by
  intro E p e s0 m args below meth cd C hE H locs lm hH hS hl
  obtain ⟨Cn, T, ty, k1, k2, k3, k4, k5, k6, k7⟩ := hk
  have hts := C.2.2.2.2.2.1
  have hKn := C.2.2.2.2.2.2.2.2.1.1 ci _ k1
  refine W.newcK C.1 C.2.1 C.2.2.2.2.1 (hts _ k4) (hts _ k5) (hts _ k6) rfl hd hc hs hKn.2.1 hH.1 fun H1 kC hkC e1 z1 o1 => ?_
  refine kk E p e s0 m args below meth cd C hE H1 locs lm (hH.push ?_ z1 o1) (hS.push (by rw [z1, hH.1]; omega) o1) hl
  exact ⟨_, k1, (u_born ty hts k2 hKn hkC e1 k3).to (k7 E)⟩
theorem V.newarr {k N : Nat} {at' : ArrayType} {ty : FieldType} {x : Int32} (hd : decode M.2.1 pc = .ok (.newarray at', 2)) (hk : (k = 0 ∧ at' = .int ∧ ty = .int) ∨ (k = 1 ∧ at' = .byte ∧ ty = .byte)) (hx : x = nI N) (hN : N < 100000) (hw : Cond.arrayClass ty ∈ tb) (hc : c + 1 ≤ mc) (hs : s + N ≤ ms) (kk : V l M d mc ms (pc + 2) ls (.ref n :: st) (n + 1) (up h n (.inl (k, N, .inl (fun _ => 0)))) (c + 1) (s + N) Q) : V l M d mc ms pc ls (.int x :: st) n h c s Q := by
  intro E p e s0 m args below meth cd C hE H locs lm hH hS hl
  have hts := C.2.2.2.2.2.1
  have hK := C.2.2.2.2.2.2.2.2.1
  have e0 : newarray.typeOf at' = ty := by rcases hk with ⟨-, rfl, rfl⟩ | ⟨-, rfl, rfl⟩ <;> rfl
  have e0b : componentBytes ty ≤ 4 := by rcases hk with ⟨-, rfl, rfl⟩ | ⟨-, rfl, rfl⟩ <;> decide
  have e0d : defaultValue ty = .int 0 := by rcases hk with ⟨-, rfl, rfl⟩ | ⟨-, rfl, rfl⟩ <;> rfl
  have ht : (tys E)[k]? = some (E.2.2.1 k, ty) := by rcases hk with ⟨rfl, -, rfl⟩ | ⟨rfl, -, rfl⟩ <;> rfl
  have hxN : x.toNatClampNeg = N := by rw [hx]; exact nI_clamp (by omega)
  refine va_newaK C.1 C.2.1 (by rw [e0]; exact hts _ hw) rfl hd rfl (by rw [hx]; exact nI_pos (by omega)) hxN (by rw [e0]; exact Nat.le_trans (Nat.mul_le_mul_left N e0b) (by omega)) hc hs hH.1 fun H1 cA e1 z1 o1 hAr hNm => ?_
  refine kk E p e s0 m args below meth cd C hE H1 locs lm (hH.push ?_ z1 o1) (hS.push (by rw [z1, hH.1]; omega) o1) hl
  have hcA : cA = E.2.2.1 k := by
    have h2 := (hK.2 k _ ht).2
    rw [e0] at hNm
    rcases hk with ⟨rfl, -, rfl⟩ | ⟨rfl, -, rfl⟩ <;> exact Option.some.inj (hNm.symm.trans h2)
  show H1[E.1 + n]? = some (vp_cell (E.2.2.1 k) (N, .inl (fun _ => 0)))
  rw [e1, hcA, e0, e0d]
  rfl
theorem V.anew {k N : Nat} {cn : String} {x : Int32} (hd : decode M.2.1 pc = .ok (.anewarray idx, 3)) (hk : (k = 2 ∧ cn = "FelledByNames$Tree") ∨ (k = 3 ∧ cn = "FelledByNames$Sheet")) (hx : x = nI N) (hN : N < 100000) (hw : Cond.classLink M.1.cls idx cn ∈ tb) (hc : c + 1 ≤ mc) (hs : s + N ≤ ms) (kk : V l M d mc ms (pc + 3) ls (.ref n :: st) (n + 1) (up h n (.inl (k, N, .inr (.inr (.inr (.inr (fun _ => none))))))) (c + 1) (s + N) Q) : V l M d mc ms pc ls (.int x :: st) n h c s Q := by
  intro E p e s0 m args below meth cd C hE H locs lm hH hS hl
  have hts := C.2.2.2.2.2.1
  have hK := C.2.2.2.2.2.2.2.2.1
  have ht : (tys E)[k]? = some (E.2.2.1 k, .object cn) := by rcases hk with ⟨rfl, rfl⟩ | ⟨rfl, rfl⟩ <;> rfl
  have hAO : va_AO cn s0 := by
    rcases hk with ⟨-, rfl⟩ | ⟨-, rfl⟩
    · exact C.2.2.2.2.2.2.2.2.2.2.2.2.2.2.1
    · exact C.2.2.2.2.2.2.2.2.2.2.2.2.2.2.2.1
  have hxN : x.toNatClampNeg = N := by rw [hx]; exact nI_clamp (by omega)
  subst hxN
  refine W.anew C.1 C.2.1 C.2.2.2.2.1 (hts _ hw) (va_AO.use hAO) rfl hd rfl (by rw [hx]; exact nI_pos (by omega)) (by omega) hc hs fun cA kA comp f1 f2 f3 f4 => ?_
  have hcA : cA = E.2.2.1 k := by
    obtain ⟨kA', comp', k1, k2, k3, k4⟩ := (hK.2 k _ ht).2
    exact Option.some.inj (f1.symm.trans k4)
  have hz : H.size = E.1 + n := hH.1
  rw [hz]
  refine kk E p e s0 m args below meth cd C hE _ locs lm (hH.push ?_ (by rw [Array.size_push, hz]) (fun q hq => by rw [Array.getElem?_push, if_neg (by omega)])) (hS.push (n := n) (by rw [Array.size_push]; omega) (fun q hq => by rw [Array.getElem?_push, if_neg (by omega)])) hl
  show _ = some (vp_cell (E.2.2.1 k) (x.toNatClampNeg, .inr (.inr (.inr (.inr (fun _ => none))))))
  rw [← hz, Array.getElem?_push_size, ← hcA, vp_cell_q]
  congr 1
  exact arrV_new cA x.toNatClampNeg .null
/-- instanceof, by what the tables say -/
theorem V.instY {a ci : Nat} {fs : List Value} {r : vw_C} {nm : String} (hd : decode M.2.1 pc = .ok (.instanceof idx, 3)) (hw : Cond.classLink M.1.cls idx nm ∈ tb) (ha : h a = some (.inr (ci, fs))) (hr : cls[ci]? = some r) (hc : (r.1, nm) ∈ css) (kk : V l M d mc ms (pc + 3) ls (.int 1 :: st) n h c s Q) : V l M d mc ms pc ls (.ref a :: st) n h c s Q :=
  fun E p e s0 m args below meth cd C hE H locs lm hH hS hl => va_instY C.1 C.2.1 C.2.2.2.2.1 (C.2.2.2.2.2.1 _ hw) (C.2.2.2.2.2.2.2.2.2.2.2.2.2.2.2.2.2.2 _ hc) (recv_at C hH ha hr) hd (kk E p e s0 m args below meth cd C hE H locs lm hH hS hl)
theorem V.instE {a ci : Nat} {fs : List Value} {r : vw_C} (hd : decode M.2.1 pc = .ok (.instanceof idx, 3)) (ha : h a = some (.inr (ci, fs))) (hr : cls[ci]? = some r) (hw : Cond.classLink M.1.cls idx r.1 ∈ tb) (kk : V l M d mc ms (pc + 3) ls (.int 1 :: st) n h c s Q) : V l M d mc ms pc ls (.ref a :: st) n h c s Q :=
  fun E p e s0 m args below meth cd C hE H locs lm hH hS hl => va_instE C.1 C.2.1 C.2.2.2.2.1 (C.2.2.2.2.2.1 _ hw) (recv_at C hH ha hr) hd (kk E p e s0 m args below meth cd C hE H locs lm hH hS hl)
theorem V.instN {a ci : Nat} {fs : List Value} {r : vw_C} {nm : String} (hd : decode M.2.1 pc = .ok (.instanceof idx, 3)) (hw : Cond.classLink M.1.cls idx nm ∈ tb) (ha : h a = some (.inr (ci, fs))) (hr : cls[ci]? = some r) (hc : (r.1, nm) ∈ ncs) (kk : V l M d mc ms (pc + 3) ls (.int 0 :: st) n h c s Q) : V l M d mc ms pc ls (.ref a :: st) n h c s Q :=
  fun E p e s0 m args below meth cd C hE H locs lm hH hS hl => va_instNo C.1 C.2.1 C.2.2.2.2.1 (C.2.2.2.2.2.1 _ hw) (C.2.2.2.2.2.2.2.2.2.1 _ hc) (recv_at C hH ha hr) hd (kk E p e s0 m args below meth cd C hE H locs lm hH hS hl)
/-! constants: the texts, their bytes, the script -/
theorem V.ldcS {i : Nat} {q : String × Nat × String} (hd : decode M.2.1 pc = .ok (.ldc idx, 2)) (hq : txs[i]? = some q) (h1 : q.1 = M.1.cls) (h2 : q.2.1 = idx) (hi : i < 100) (kk : V l M d mc ms (pc + 2) ls (.float (UInt32.ofNat i) :: st) n h c s Q) : V l M d mc ms pc ls st n h c s Q := by
  intro E p e s0 m args below meth cd C hE H locs lm hH hS hl
  have kk' := kk E p e s0 m args below meth cd C hE H locs lm hH hS hl
  have hR := C.2.2.2.2.2.2.2.2.2.2.2.1 i q hq
  rw [h1, h2] at hR
  have e1 : (UInt32.ofNat i).toNat = i := by rw [UInt32.toNat_ofNat']; exact Nat.mod_eq_of_lt (by omega)
  have kk2 : W p l e (rmd d mc ms) s0 m args below meth cd H locs c s (MQ below (Pst E Q) args s0 mc ms (EA E)) (F0 m (pc + 2) lm (.ref (E.2.1 (UInt32.ofNat i).toNat) :: st.map (tV E))) := kk'
  rw [e1] at kk2
  exact va_ldcS C.1 C.2.1 C.2.2.2.2.1 hR hd kk2
theorem V.getV {i idx : Nat} (hd : decode M.2.1 pc = .ok (.getfield idx, 3)) (hw : Cond.fieldLink M.1.cls idx "java/lang/String" "value" "[B" ∈ tb) (hi : i < 10) (kk : V l M d mc ms (pc + 3) ls (.float (UInt32.ofNat (100 + i)) :: st) n h c s Q) : V l M d mc ms pc ls (.float (UInt32.ofNat i) :: st) n h c s Q := by
  intro E p e s0 m args below meth cd C hE H locs lm hH hS hl
  have kk' := kk E p e s0 m args below meth cd C hE H locs lm hH hS hl
  have e1 : (UInt32.ofNat i).toNat = i := by rw [UInt32.toNat_ofNat']; exact Nat.mod_eq_of_lt (by omega)
  have e2 : (UInt32.ofNat (100 + i)).toNat = 100 + i := by rw [UInt32.toNat_ofNat']; exact Nat.mod_eq_of_lt (by omega)
  obtain ⟨cf, k, fi, f, cell, g1, g2, g3, g4, g5, g6⟩ := (C.2.2.2.2.2.2.2.2.2.2.1.1 i hi).2.2.1
  have hlt : E.2.1 i < E.1 := Nat.not_le.mp g6
  have g3' : H[E.2.1 (UInt32.ofNat i).toNat]? = some cell := by rw [e1, hS.2.1 _ hlt]; exact g3
  exact W.getf C.1 C.2.1 C.2.2.2.2.1 (C.2.2.2.2.2.1 _ hw) g1 g2 g3' g4 (v := tV E (.float (UInt32.ofNat (100 + i)))) (by rw [g5]; show _ = some (Value.ref (E.2.1 (UInt32.ofNat (100 + i)).toNat)); rw [e2]) rfl rfl hd kk'
theorem V.getC {i idx : Nat} (hd : decode M.2.1 pc = .ok (.getfield idx, 3)) (hw : Cond.fieldLink M.1.cls idx "java/lang/String" "coder" "B" ∈ tb) (hi : i < 10) (kk : V l M d mc ms (pc + 3) ls (.int 0 :: st) n h c s Q) : V l M d mc ms pc ls (.float (UInt32.ofNat i) :: st) n h c s Q := by
  intro E p e s0 m args below meth cd C hE H locs lm hH hS hl
  have kk' := kk E p e s0 m args below meth cd C hE H locs lm hH hS hl
  have e1 : (UInt32.ofNat i).toNat = i := by rw [UInt32.toNat_ofNat']; exact Nat.mod_eq_of_lt (by omega)
  obtain ⟨cf, k, fi, f, cell, g1, g2, g3, g4, g5, g6⟩ := (C.2.2.2.2.2.2.2.2.2.2.1.1 i hi).2.1
  have hlt : E.2.1 i < E.1 := Nat.not_le.mp g6
  have g3' : H[E.2.1 (UInt32.ofNat i).toNat]? = some cell := by rw [e1, hS.2.1 _ hlt]; exact g3
  exact W.getf C.1 C.2.1 C.2.2.2.2.1 (C.2.2.2.2.2.1 _ hw) g1 g2 g3' g4 (v := .int 0) g5 rfl rfl hd kk'
theorem V.lenK {i : Nat} {v : Int32} (hd : decode M.2.1 pc = .ok (.arraylength, 1)) (hi : i < 10) (hv : nI (txl.getD i 0) = v) (kk : V l M d mc ms (pc + 1) ls (.int v :: st) n h c s Q) : V l M d mc ms pc ls (.float (UInt32.ofNat (100 + i)) :: st) n h c s Q := by
  intro E p e s0 m args below meth cd C hE H locs lm hH hS hl
  have kk' := kk E p e s0 m args below meth cd C hE H locs lm hH hS hl
  have e2 : (UInt32.ofNat (100 + i)).toNat = 100 + i := by rw [UInt32.toNat_ofNat']; exact Nat.mod_eq_of_lt (by omega)
  obtain ⟨cell, g1, g2, g3, g4, g5, g6, g7⟩ := (C.2.2.2.2.2.2.2.2.2.2.1.1 i hi).2.2.2
  have hlt : E.2.1 (100 + i) < E.1 := Nat.not_le.mp g7
  exact W.alen (n := v) C.1 C.2.1 (a := E.2.1 (UInt32.ofNat (100 + i)).toNat) (by rw [e2, hS.2.1 _ hlt]; exact g1) g2 (by rw [g5]; exact hv) rfl rfl hd kk'
theorem V.baldK {i : Nat} {j : Int32} {v : Int32} (hd : decode M.2.1 pc = .ok (.baload, 1)) (hi : i < 10) (hin : vp_in j (txl.getD i 0)) (hv : (txb.getD i []).getD j.toNatClampNeg 0 = v) (kk : V l M d mc ms (pc + 1) ls (.int v :: st) n h c s Q) : V l M d mc ms pc ls (.int j :: .float (UInt32.ofNat (100 + i)) :: st) n h c s Q := by
  intro E p e s0 m args below meth cd C hE H locs lm hH hS hl
  have kk' := kk E p e s0 m args below meth cd C hE H locs lm hH hS hl
  have e2 : (UInt32.ofNat (100 + i)).toNat = 100 + i := by rw [UInt32.toNat_ofNat']; exact Nat.mod_eq_of_lt (by omega)
  obtain ⟨cell, g1, g2, g3, g4, g5, g6, g7⟩ := (C.2.2.2.2.2.2.2.2.2.2.1.1 i hi).2.2.2
  have hlt : E.2.1 (100 + i) < E.1 := Nat.not_le.mp g7
  have hj : j.toNatClampNeg < txl.getD i 0 := Nat.not_le.mp fun q => hin (Or.inr q)
  exact W.bald (v := .int v) C.1 C.2.1 (a := E.2.1 (UInt32.ofNat (100 + i)).toNat) (by rw [e2, hS.2.1 _ hlt]; exact g1) g2 g3 (fun q => hin (q.imp id (fun z => Nat.le_trans g4 z))) (by rw [g6 _ hj, ← hv]) rfl rfl hd kk'
theorem V.getsC {idx : Nat} (hd : decode M.2.1 pc = .ok (.getstatic idx, 3)) (hw : Cond.fieldLink M.1.cls idx "java/lang/String" "COMPACT_STRINGS" "Z" ∈ tb) (kk : V l M d mc ms (pc + 3) ls (.int 1 :: st) n h c s Q) : V l M d mc ms pc ls st n h c s Q :=
  fun E p e s0 m args below meth cd C hE H locs lm hH hS hl => va_gets (A := EA E) C.1 C.2.1 (v := .int 1) C.2.2.2.2.2.2.2.2.2.2.2.2.1 hS.va C.2.2.2.2.1 (C.2.2.2.2.2.1 _ hw) (fun _ hx => hx) hd (kk E p e s0 m args below meth cd C hE H locs lm hH hS hl)
theorem V.getsF {idx : Nat} (hd : decode M.2.1 pc = .ok (.getstatic idx, 3)) (hw : Cond.fieldLink M.1.cls idx "jdk/internal/util/Preconditions" "SIOOBE_FORMATTER" "Ljava/util/function/BiFunction;" ∈ tb) (kk : V l M d mc ms (pc + 3) ls (.retAddr 0 :: st) n h c s Q) : V l M d mc ms pc ls st n h c s Q :=
  fun E p e s0 m args below meth cd C hE H locs lm hH hS hl => va_gets (A := EA E) C.1 C.2.1 (v := fmVx E) C.2.2.2.2.2.2.2.2.2.2.2.2.2.2.2.2.1 hS.va C.2.2.2.2.1 (C.2.2.2.2.2.1 _ hw) (fun _ hx => hx) hd (kk E p e s0 m args below meth cd C hE H locs lm hH hS hl)
/-- the script's length, and its ints -/
theorem V.lenX {L : Nat} {xs : Nat → Int32} (hM : M.2.2.2.2 = fun E => E.2.2.2.2 = (L, xs)) (hd : decode M.2.1 pc = .ok (.arraylength, 1)) (kk : V l M d mc ms (pc + 1) ls (.int (nI L) :: st) n h c s Q) : V l M d mc ms pc ls (.float 200 :: st) n h c s Q := by
  intro E p e s0 m args below meth cd C hE H locs lm hH hS hl
  have kk' := kk E p e s0 m args below meth cd C hE H locs lm hH hS hl
  have hE2 : E.2.2.2.2 = (L, xs) := by rw [hM] at hE; exact hE
  have hT := C.2.2.2.2.2.2.2.2.2.2.2.2.2.1
  rw [hE2] at hT
  exact va_tlen C.1 C.2.1 hT hS.va (v := nI L) rfl hd kk'
theorem V.ialdX {L : Nat} {xs : Nat → Int32} {i : Int32} (hM : M.2.2.2.2 = fun E => E.2.2.2.2 = (L, xs)) (hd : decode M.2.1 pc = .ok (.iaload, 1)) (hin : vp_in i L) (kk : V l M d mc ms (pc + 1) ls (.int (xs i.toNatClampNeg) :: st) n h c s Q) : V l M d mc ms pc ls (.int i :: .float 200 :: st) n h c s Q := by
  intro E p e s0 m args below meth cd C hE H locs lm hH hS hl
  have kk' := kk E p e s0 m args below meth cd C hE H locs lm hH hS hl
  have hE2 : E.2.2.2.2 = (L, xs) := by rw [hM] at hE; exact hE
  have hT := C.2.2.2.2.2.2.2.2.2.2.2.2.2.1
  rw [hE2] at hT
  exact va_ti C.1 C.2.1 hT hS.va hin (v := .int (xs i.toNatClampNeg)) rfl hd kk'
end VN
