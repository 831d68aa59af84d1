theorem hP1 {D : va_G} {cl : List vw_C} {q : Nat × va_E} {H : Heap} (hq : va_at D cl q H) : va_P D cl [q] H := by
  intro k x hx
  have hk : k < 1 := (List.getElem?_eq_some_iff.mp hx).1
  rw [show k = 0 by omega] at hx
  cases hx
  exact hq
theorem Sx.put {E : Ev} {s : State} {H H1 : Heap} {locs : List Loc} {a k : Nat} (hS : Sx E s H locs) (hz : H1.size = H.size) (ho : ∀ q, q ≠ E.1 + a → H1[q]? = H[q]?) : Sx E s H1 (locs ++ [⟨E.1 + a, k⟩]) :=
  ⟨hS.1, fun q hq => (ho q (by omega)).trans (hS.2.1 q hq), fun x hx => by
    rcases List.mem_append.mp hx with hx | hx
    · exact hS.2.2.1 x hx
    · rw [List.mem_singleton.mp hx]
      exact Nat.le_add_right _ _, by rw [hz]; exact hS.2.2.2⟩
theorem Sx.push {E : Ev} {s : State} {H H1 : Heap} {locs : List Loc} {n : Nat} (hS : Sx E s H locs) (hz : H.size ≤ H1.size) (ho : ∀ q, q < E.1 + n → H1[q]? = H[q]?) : Sx E s H1 locs :=
  ⟨hS.1, fun q hq => (ho q (by omega)).trans (hS.2.1 q hq), hS.2.2.1, Nat.le_trans hS.2.2.2 hz⟩
/-- the kit's frame, out of ours -/
theorem Sx.va {E : Ev} {s : State} {H : Heap} {locs : List Loc} (hS : Sx E s H locs) : va_S (EA E) s.heap H locs := ⟨hS.2.2.2, fun q _ h2 => hS.2.1 q (Nat.not_le.mp h2), hS.2.2.1⟩
/-- a field: the class of the object, its place, the word that links it here -/
def fok (own : String) (idx ci k : Nat) : Prop := ∃ (C : String) (T : u_T) (N : Nat) (ref : String), cls[ci]? = some (C, T, N) ∧ (∀ w ∈ u_ws C T N, w ∈ tb) ∧ k < N ∧ Cond.fieldLink own idx ref (T k).2.1 (T k).2.2.1 ∈ tb ∧ (ref = (T k).1 ∨ Cond.sameField ref (T k).1 (T k).2.1 (T k).2.2.1 ∈ tb) ∧ ∃ ty : Nat → FieldType, (∀ k, k < N → parseFieldDescriptor (T k).2.2.1 = some (ty k)) ∧ ∀ a, a < N → ∀ b, b < N → a ≠ b → (T a).2.1 ≠ (T b).2.1
theorem fok_same {args : Array Value} {s : State} {ref o nm ds : String} (hts : ∀ w ∈ tb, w.before args s = true) (hr : ref = o ∨ Cond.sameField ref o nm ds ∈ tb) (x : ClassId × Class × Nat × Field) (hx : s.fieldFound? o nm ds = some x) : s.fieldFound? ref nm ds = some x := by
  rcases hr with rfl | hr
  · exact hx
  · exact u_same (hts _ hr) x hx
/-- a field that may be written: its type -/
def fpk (ci k : Nat) (ty : FieldType) : Prop := ∃ (C : String) (T : u_T) (N : Nat), cls[ci]? = some (C, T, N) ∧ (T k).2.2.2 = false ∧ parseFieldDescriptor (T k).2.2.1 = some ty
def fpF (own : String) (ci k : Nat) (ty : FieldType) : Prop := ∃ (C : String) (T : u_T) (N : Nat), cls[ci]? = some (C, T, N) ∧ (T k).2.2.2 = true ∧ (T k).1 = own ∧ parseFieldDescriptor (T k).2.2.1 = some ty
section VH
variable {l : Launch} {M : MD} {d mc ms pc : Nat} {ls : List (Nat × Value)} {st : List Value} {n : Nat} {h : HP} {c s : Nat} {Q : QT}
theorem V.get {a ci k idx : Nat} {fs : List Value} {v : Value} (hd : decode M.2.1 pc = .ok (.getfield idx, 3)) (hf : fok M.1.cls idx ci k) (ha : h a = some (.inr (ci, fs))) (hv : fs[k]? = some v) (kk : V l M d mc ms (pc + 3) ls (v :: st) n h c s Q) : V l M d mc ms pc ls (.ref a :: st) n h c s Q := by
  intro E p e s0 m args below meth cd C hE H locs lm hH hS hl
  obtain ⟨Cn, T, N, ref, hc, hin, hk, hw, hsame, -⟩ := hf
  exact va_get (D := E.2.2.2.1) (cl := cls) (tys := tys E) (ws := [(E.1 + a, tE E (.inr (ci, fs)))]) (ref := ref) C.1 C.2.1 C.2.2.2.2.2.1 hin C.2.2.2.2.1 C.2.2.2.2.2.2.2.2.1 (hP1 (hH.2 _ _ ha).2) 0 rfl hc k hk (C.2.2.2.2.2.1 _ hw) (fok_same C.2.2.2.2.2.1 hsame) (v := tV E v) (by rw [List.getElem?_map, hv]; rfl) hd (kk E p e s0 m args below meth cd C hE H locs lm hH hS hl)
theorem V.put {a ci k idx : Nat} {fs : List Value} {v : Value} {ty : FieldType} (hd : decode M.2.1 pc = .ok (.putfield idx, 3)) (hf : fok M.1.cls idx ci k) (hp : fpk ci k ty) (hn : ∀ E, narrow ty (tV E v) = tV E v) (hfit : ∀ E, fits ty (tV E v) = true) (ha : h a = some (.inr (ci, fs))) (hl0 : k < fs.length) (kk : V l M d mc ms (pc + 3) ls st n (up h a (.inr (ci, fs.set k v))) c s Q) : V l M d mc ms pc ls (v :: .ref a :: st) n h c s Q := by
  intro E p e s0 m args below meth cd C hE H locs lm hH hS hl
  obtain ⟨Cn, T, N, ref, hc, hin, hk, hw, hsame, ty0, hty, hnm⟩ := hf
  obtain ⟨Cn', T', N', hc', hfin, hdesc⟩ := hp
  cases hc.symm.trans hc'
  have hK := C.2.2.2.2.2.2.2.2.1
  have hts := C.2.2.2.2.2.1
  have hap := va_apart (own := M.1.cls) hts hin ty0 hty hnm hK hc
  obtain ⟨hlt, r, h1, cell, q1, q2, q3, q4⟩ := hH.2 _ _ ha
  cases h1.symm.trans hc
  obtain ⟨hSl, hfc, kC, hkC, hkind⟩ := hK.1 ci _ hc
  obtain ⟨cf, kf, fi, f, hi, hsl⟩ := hSl k hk
  have hlay := hts _ (hin _ (u_in_lay hk))
  unfold u_lay at hlay
  rw [if_neg (by rw [hfin]; decide)] at hlay
  have hst := (u_facts hfc hkC (u_lays hts hin hk) hi).1
  have h6 := u_store hfc hkC hkind hlay hi hdesc (hn E) (hfit E)
  refine W.putK C.1 C.2.1 (f := f) ⟨C.2.2.2.2.1, hts _ hw, ⟨_, _, _, fok_same hts hsame _ hi⟩, hst⟩ (by rw [q2]; exact h6) q1 q3 (by rw [hsl]; exact k2_hasslot (q4 k hk)) rfl rfl hd fun H' e1 e2 e3 => ?_
  rw [hsl] at e1
  refine kk E p e s0 m args below meth cd C hE H' _ lm (hH.set ha ?_ e2 e3) (hS.put e2 e3) hl
  refine ⟨_, hc, t_OB.to (V := updV (vp_V (fs.map (tV E))) k (tV E v)) ⟨_, e1, q2, q3, t_set q4 hap hk _⟩ (fun j _ => ?_)⟩
  rw [vp_updV_set (by rw [List.length_map]; exact hl0)]
  show vp_V ((fs.map (tV E)).set k (tV E v)) j = vp_V ((fs.set k v).map (tV E)) j
  rw [List.map_set]
theorem V.putF {a ci k idx : Nat} {fs : List Value} {v : Value} {ty : FieldType} (hd : decode M.2.1 pc = .ok (.putfield idx, 3)) (hf : fok M.1.cls idx ci k) (hp : fpF M.1.cls ci k ty) (hM : M.1.name = "<init>") (hn : ∀ E, narrow ty (tV E v) = tV E v) (hfit : ∀ E, fits ty (tV E v) = true) (ha : h a = some (.inr (ci, fs))) (hl0 : k < fs.length) (kk : V l M d mc ms (pc + 3) ls st n (up h a (.inr (ci, fs.set k v))) c s Q) : V l M d mc ms pc ls (v :: .ref a :: st) n h c s Q := by
  intro E p e s0 m args below meth cd C hE H locs lm hH hS hl
  obtain ⟨Cn, T, N, ref, hc, hin, hk, hw, hsame, ty0, hty, hnm⟩ := hf
  obtain ⟨Cn', T', N', hc', hfin, hdecl, hdesc⟩ := hp
  cases hc.symm.trans hc'
  have hK := C.2.2.2.2.2.2.2.2.1
  have hts := C.2.2.2.2.2.1
  have hown := C.2.2.2.2.1
  have hap := va_apart (own := M.1.cls) hts hin ty0 hty hnm hK hc
  obtain ⟨hlt, r, h1, cell, q1, q2, q3, q4⟩ := hH.2 _ _ ha
  cases h1.symm.trans hc
  obtain ⟨hSl, hfc, kC, hkC, hkind⟩ := hK.1 ci _ hc
  obtain ⟨cf, kf, fi, f, hi, hsl⟩ := hSl k hk
  have hlay := hts _ (hin _ (u_in_lay hk))
  unfold u_lay at hlay
  rw [if_pos hfin] at hlay
  have hst := (u_facts hfc hkC (u_lays hts hin hk) hi).1
  have hcf : m.cls = cf := by
    obtain ⟨_, _, c', _, _, _, -, -, hf', -, -, -, hown2, -⟩ := Cond.laysFinal_spec hlay
    have e1 : c' = cf := by have := hi.symm.trans hf'; simp at this; exact this.1.symm
    rw [hdecl] at hown2
    rw [← e1]; exact Option.some.inj (hown.symm.trans hown2)
  have h6 := u_fits hfc hkC hkind (Or.inr hlay) hi hdesc (hn E) (hfit E)
  refine W.putFinK C.1 C.2.1 hown (hts _ hw) (fok_same hts hsame _ hi) hst hcf (C.2.2.2.2.2.2.2.1.trans hM) (by rw [q2]; exact h6) q1 q3 (by rw [hsl]; exact k2_hasslot (q4 k hk)) rfl rfl hd fun H' e1 e2 e3 => ?_
  rw [hsl] at e1
  refine kk E p e s0 m args below meth cd C hE H' _ lm (hH.set ha ?_ e2 e3) (hS.put e2 e3) hl
  refine ⟨_, hc, t_OB.to (V := updV (vp_V (fs.map (tV E))) k (tV E v)) ⟨_, e1, q2, q3, t_set q4 hap hk _⟩ (fun j _ => ?_)⟩
  rw [vp_updV_set (by rw [List.length_map]; exact hl0)]
  show vp_V ((fs.map (tV E)).set k (tV E v)) j = vp_V ((fs.set k v).map (tV E)) j
  rw [List.map_set]
theorem V.iald {a N : Nat} {f : Nat → Int32} {i : Int32} (hd : decode M.2.1 pc = .ok (.iaload, 1)) (ha : h a = some (.inl (0, N, .inl f))) (hin : vp_in i N) (kk : V l M d mc ms (pc + 1) ls (.int (f i.toNatClampNeg) :: st) n h c s Q) : V l M d mc ms pc ls (.int i :: .ref a :: st) n h c s Q :=
  fun E p e s0 m args below meth cd C hE H locs lm hH hS hl => va_iald (D := E.2.2.2.1) (cl := cls) (tys := tys E) C.1 C.2.1 C.2.2.2.2.2.2.2.2.1 (hP1 (hH.2 _ _ ha).2) 0 0 rfl rfl hin hd (kk E p e s0 m args below meth cd C hE H locs lm hH hS hl)
theorem V.bald {a N : Nat} {f : Nat → Int32} {i : Int32} (hd : decode M.2.1 pc = .ok (.baload, 1)) (ha : h a = some (.inl (1, N, .inl f))) (hin : vp_in i N) (kk : V l M d mc ms (pc + 1) ls (.int (f i.toNatClampNeg) :: st) n h c s Q) : V l M d mc ms pc ls (.int i :: .ref a :: st) n h c s Q :=
  fun E p e s0 m args below meth cd C hE H locs lm hH hS hl => va_bald (D := E.2.2.2.1) (cl := cls) (tys := tys E) C.1 C.2.1 C.2.2.2.2.2.2.2.2.1 (hP1 (hH.2 _ _ ha).2) 0 1 rfl rfl hin hd (kk E p e s0 m args below meth cd C hE H locs lm hH hS hl)
/-- a row of trees (k 2) or of sheets (k 3) -/
theorem V.aald {a N k b : Nat} {f : Nat → Option Nat} {i : Int32} (hd : decode M.2.1 pc = .ok (.aaload, 1)) (hk : k = 2 ∨ k = 3) (ha : h a = some (.inl (k, N, .inr (.inr (.inr (.inr f)))))) (hin : vp_in i N) (hb : f i.toNatClampNeg = some b) (kk : V l M d mc ms (pc + 1) ls (.ref b :: st) n h c s Q) : V l M d mc ms pc ls (.int i :: .ref a :: st) n h c s Q := by
  intro E p e s0 m args below meth cd C hE H locs lm hH hS hl
  have kk' := kk E p e s0 m args below meth cd C hE H locs lm hH hS hl
  have e1 : va_rf ((f i.toNatClampNeg).map (fun a => E.1 + a)) = tV E (.ref b) := by rw [hb]; rfl
  rcases hk with rfl | rfl
  · refine va_aldq (D := E.2.2.2.1) (cl := cls) (tys := tys E) C.1 C.2.1 C.2.2.2.2.2.2.2.2.1 (hP1 (hH.2 _ _ ha).2) 0 2 rfl rfl hin hd ?_
    show W p l e (rmd d mc ms) s0 m args below meth cd H locs c s _ (F0 m (pc + 1) lm (va_rf ((f i.toNatClampNeg).map (fun a => E.1 + a)) :: st.map (tV E)))
    rw [e1]
    exact kk'
  · refine va_aldq (D := E.2.2.2.1) (cl := cls) (tys := tys E) C.1 C.2.1 C.2.2.2.2.2.2.2.2.1 (hP1 (hH.2 _ _ ha).2) 0 3 rfl rfl hin hd ?_
    show W p l e (rmd d mc ms) s0 m args below meth cd H locs c s _ (F0 m (pc + 1) lm (va_rf ((f i.toNatClampNeg).map (fun a => E.1 + a)) :: st.map (tV E)))
    rw [e1]
    exact kk'
theorem V.alen {a k N : Nat} {x : AX} (hd : decode M.2.1 pc = .ok (.arraylength, 1)) (ha : h a = some (.inl (k, N, x))) (hk : k < 4) (kk : V l M d mc ms (pc + 1) ls (.int (nI N) :: st) n h c s Q) : V l M d mc ms pc ls (.ref a :: st) n h c s Q := by
  intro E p e s0 m args below meth cd C hE H locs lm hH hS hl
  have kk' := kk E p e s0 m args below meth cd C hE H locs lm hH hS hl
  obtain ⟨ty, ht⟩ : ∃ ty, (tys E)[k]? = some (E.2.2.1 k, ty) := by
    rcases (show k = 0 ∨ k = 1 ∨ k = 2 ∨ k = 3 by omega) with rfl | rfl | rfl | rfl <;> exact ⟨_, rfl⟩
  exact va_alen (D := E.2.2.2.1) (cl := cls) (tys := tys E) C.1 C.2.1 C.2.2.2.2.2.2.2.2.1 (hP1 (hH.2 _ _ ha).2) 0 k rfl ht (v := nI N) rfl hd kk'
theorem upd_cell (cA : ClassId) (N k : Nat) (f : Nat → Int32) (x : Int32) : (vp_cell cA (N, .inl f)).setSlot k (.int x) = vp_cell cA (N, .inl (upd f k x)) := by
  rw [vp_cell_i, vp_cell_i, arrV_store]
  congr 1
  funext q
  by_cases hq : q = k
  · subst hq; simp [updV, upd]
  · simp [updV, upd, hq]
theorem V.iast {a N : Nat} {f : Nat → Int32} {i x : Int32} (hd : decode M.2.1 pc = .ok (.iastore, 1)) (ha : h a = some (.inl (0, N, .inl f))) (hin : vp_in i N) (kk : V l M d mc ms (pc + 1) ls st n (up h a (.inl (0, N, .inl (upd f i.toNatClampNeg x)))) c s Q) : V l M d mc ms pc ls (.int x :: .int i :: .ref a :: st) n h c s Q := by
  intro E p e s0 m args below meth cd C hE H locs lm hH hS hl
  have hc : H[E.1 + a]? = some (vp_cell (E.2.2.1 0) (N, .inl f)) := (hH.2 _ _ ha).2
  refine W.iast C.1 C.2.1 hc ((C.2.2.2.2.2.2.2.2.1.2 0 _ rfl).1 N (fun j => .int (f j))) (fun q => by cases q) (by show ¬ (i < 0 ∨ (arrV _ _ _).slots.size ≤ _); rw [arrV_size]; exact hin) rfl rfl hd fun H1 e1 z oq => ?_
  rw [upd_cell] at e1
  exact kk E p e s0 m args below meth cd C hE H1 _ lm (hH.set ha e1 z oq) (hS.put z oq) hl
theorem V.bast {a N : Nat} {f : Nat → Int32} {i x : Int32} (hd : decode M.2.1 pc = .ok (.bastore, 1)) (ha : h a = some (.inl (1, N, .inl f))) (hin : vp_in i N) (kk : V l M d mc ms (pc + 1) ls st n (up h a (.inl (1, N, .inl (upd f i.toNatClampNeg x.toInt8.toInt32)))) c s Q) : V l M d mc ms pc ls (.int x :: .int i :: .ref a :: st) n h c s Q := by
  intro E p e s0 m args below meth cd C hE H locs lm hH hS hl
  have hc : H[E.1 + a]? = some (vp_cell (E.2.2.1 1) (N, .inl f)) := (hH.2 _ _ ha).2
  refine W.bast C.1 C.2.1 hc ((C.2.2.2.2.2.2.2.2.1.2 1 _ rfl).1 N (fun j => .int (f j))) (fun q => by cases q) (by show ¬ (i < 0 ∨ (arrV _ _ _).slots.size ≤ _); rw [arrV_size]; exact hin) rfl rfl hd fun H1 e1 z oq => ?_
  have e2 : narrow .byte (.int x) = .int x.toInt8.toInt32 := by simp only [narrow]
  rw [e2, upd_cell] at e1
  exact kk E p e s0 m args below meth cd C hE H1 _ lm (hH.set ha e1 z oq) (hS.put z oq) hl
/-- an object into a row of trees or of sheets: cn, the class of the row's, that of the object is it, or under it -/
theorem V.aast {a N k b ci : Nat} {f : Nat → Option Nat} {fs : List Value} {i : Int32} {cn : String} {r : vw_C} (hd : decode M.2.1 pc = .ok (.aastore, 1)) (hk : (k = 2 ∧ cn = "FelledByNames$Tree") ∨ (k = 3 ∧ cn = "FelledByNames$Sheet")) (ha : h a = some (.inl (k, N, .inr (.inr (.inr (.inr f)))))) (hb : h b = some (.inr (ci, fs))) (hr : cls[ci]? = some r) (hca : r.1 = cn ∨ (r.1, cn) ∈ css) (hin : vp_in i N) (kk : V l M d mc ms (pc + 1) ls st n (up h a (.inl (k, N, .inr (.inr (.inr (.inr (va_up f i.toNatClampNeg (some b)))))))) c s Q) : V l M d mc ms pc ls (.ref b :: .int i :: .ref a :: st) n h c s Q := by
  intro E p e s0 m args below meth cd C hE H locs lm hH hS hl
  have hK := C.2.2.2.2.2.2.2.2.1
  have hc : H[E.1 + a]? = some (vp_cell (E.2.2.1 k) (N, tX E.1 (.inr (.inr (.inr (.inr f)))))) := (hH.2 _ _ ha).2
  have ht : (tys E)[k]? = some (E.2.2.1 k, .object cn) := by rcases hk with ⟨rfl, rfl⟩ | ⟨rfl, rfl⟩ <;> rfl
  have hlt : i.toNatClampNeg < N := Nat.not_le.mp fun q => hin (Or.inr q)
  have h0 : ¬ i < 0 := fun q => hin (Or.inl q)
  obtain ⟨kA, comp, k1, k2, k3, -⟩ := (hK.2 k _ ht).2
  obtain ⟨kE, hkE, -⟩ := Vm.findClass_spec k3
  obtain ⟨-, r', hr', cell, q1, q2, q3, -⟩ := hH.2 _ _ hb
  cases hr'.symm.trans hr
  obtain ⟨hSl, hfc, kC, hkC, hkind⟩ := hK.1 ci _ hr
  have hasg : s0.vm.assignable cell.cls comp = true := by
    rw [q2]
    rcases hca with hca | hca
    · rw [hca] at hfc
      cases hfc.symm.trans k3
      exact va_assign ⟨hfc, kC, hkC, hkind⟩
    · obtain ⟨c0, t0, f1, f2, f3⟩ := Cond.castable_spec (va_Nw.use (A := args) rfl (C.2.2.2.2.2.2.2.2.2.2.2.2.2.2.2.2.2.2 _ hca))
      cases f1.symm.trans hfc
      cases f2.symm.trans k3
      exact f3
  refine W.aast C.1 C.2.1 hc (fun q h => by cases h) (fun h => by cases h) k1 k2 rfl hkE ⟨h0, by show _ < (arrV _ _ _).slots.size; rw [arrV_size]; exact hlt⟩ q1 (fun q h => by rw [q3] at h; cases h) (by rw [q2]; exact hkC) hasg rfl rfl hd fun H1 e1 z oq => ?_
  refine kk E p e s0 m args below meth cd C hE H1 _ lm (hH.set ha ?_ z oq) (hS.put z oq) hl
  show H1[E.1 + a]? = some (vp_cell _ (N, .inr (.inr (.inr (.inr (fun j => (va_up f i.toNatClampNeg (some b) j).map (fun a => E.1 + a)))))))
  rw [e1]
  show some ((vp_cell (E.2.2.1 k) (N, .inr (.inr (.inr (.inr (fun j => (f j).map (fun a => E.1 + a))))))).setSlot i.toNatClampNeg (.ref (E.1 + b))) = some (vp_cell (E.2.2.1 k) (N, .inr (.inr (.inr (.inr (fun j => (va_up f i.toNatClampNeg (some b) j).map (fun a => E.1 + a)))))))
  rw [vp_cell_q, vp_cell_q, arrV_store]
  congr 2
  funext q
  by_cases hq : q = i.toNatClampNeg
  · subst hq; simp [updV, va_up, va_rf]
  · simp [updV, va_up, hq]
end VH
