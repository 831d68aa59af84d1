theorem nn_clamp (z : Int32) (hz : ¬ z < 0) : z.toInt = (z.toNatClampNeg : Int) := by
  have hz0 : (0 : Int) ≤ z.toInt := by
    have := Int32.not_lt.mp hz
    simpa using Int32.le_iff_toInt_le.mp this
  show z.toInt = ((z.toInt.toNat : Nat) : Int)
  omega
/-- System.arraycopy over rows of ints -/
theorem V.copy {l : Launch} {M : MD} {d mc ms pc idx : Nat} {ls : List (Nat × Value)} {st : List Value} {n : Nat} {h : HP} {c s : Nat} {Q : QT} {a0 a1 n0 n1 : Nat} {f g : Nat → Int32} {sp dp k : Int32} (hd : decode M.2.1 pc = .ok (.invokestatic idx, 3)) (hw : Cond.methodLink M.1.cls idx arraycopyName ∈ tb) (ha0 : h a0 = some (.inl (0, n0, .inl f))) (ha1 : h a1 = some (.inl (0, n1, .inl g)))
    (h1 : ¬ sp < 0) (h2 : ¬ dp < 0) (h3 : ¬ k < 0) (h4 : sp.toNatClampNeg + k.toNatClampNeg ≤ n0) (h5 : dp.toNatClampNeg + k.toNatClampNeg ≤ n1) (hs : (st.map fun v => v.category).sum ≤ 8)
    (kk : V l M (d + 1) mc ms (pc + 3) ls st n (up h a1 (.inl (0, n1, .inl (va_cpy f g sp.toNatClampNeg dp.toNatClampNeg k.toNatClampNeg)))) c s Q) : V l M (d + 1) mc ms pc ls (.int k :: .int dp :: .ref a1 :: .int sp :: .ref a0 :: st) n h c s Q := by
  intro E p e s0 m args below meth cd C hE H locs lm hH hS hl
  have hts := C.2.2.2.2.2.1
  have hK := C.2.2.2.2.2.2.2.2.1
  have hc0 : H[E.1 + a0]? = some (vp_cell (E.2.2.1 0) (n0, .inl f)) := (hH.2 _ _ ha0).2
  have hc1 : H[E.1 + a1]? = some (vp_cell (E.2.2.1 0) (n1, .inl g)) := (hH.2 _ _ ha1).2
  intro T hT X
  obtain ⟨-, k0, hk0, cm0, hkk0⟩ := (hK.2 0 _ rfl).1 n0 (fun j => .int (f j))
  obtain ⟨-, k1, hk1, cm1, hkk1⟩ := (hK.2 0 _ rfl).1 n1 (fun j => .int (g j))
  obtain ⟨vm', X', step⟩ := X.arraycopy C.1 C.2.2.2.2.1 (hts _ hw) (hts _ (tm 403 (by decide +kernel) rfl)) (hts _ (tm 402 (by decide +kernel) rfl)) (hts _ (tm 12 (by decide +kernel) rfl)) (src := E.1 + a0) (dst := E.1 + a1) (cs := vp_cell (E.2.2.1 0) (n0, .inl f)) (cd := vp_cell (E.2.2.1 0) (n1, .inl g)) (srcPos := sp) (destPos := dp) (n := k) (by rw [hT]; exact hc0) (by rw [hT]; exact hc1)
    (fun _ h => by cases h) (fun _ h => by cases h) (fun h => by cases h) (fun h => by cases h) hk0 hk1 hkk0 hkk1 (by simp [refKind]) h1 h2 h3
    (by rw [nn_clamp sp h1, nn_clamp k h3]; show ¬ _ > ((arrV (E.2.2.1 0) n0 (fun j => .int (f j))).slots.size : Int); rw [arrV_size]; omega)
    (by rw [nn_clamp dp h2, nn_clamp k h3]; show ¬ _ > ((arrV (E.2.2.1 0) n1 (fun j => .int (g j))).slots.size : Int); rw [arrV_size]; omega)
    (fun vm₁ _ i hi => by
      have e : (vp_cell (E.2.2.1 0) (n0, .inl f)).slots.getD (sp.toNatClampNeg + i) .null = .int (f (sp.toNatClampNeg + i)) := by
        show (arrV (E.2.2.1 0) n0 (fun j => .int (f j))).slots.getD _ _ = _
        rw [Array.getD_eq_getD_getElem?, arrV_read _ _ (by omega)]
        rfl
      rw [e]
      exact ⟨rfl, trivial⟩)
    (g := F0 m pc lm (.int k :: .int dp :: .ref (E.1 + a1) :: .int sp :: .ref (E.1 + a0) :: st.map (tV E))) rfl (by rw [C.2.2.1]; exact hl.1) (rest := st.map (tV E)) rfl (by rw [C.2.1]; exact hd) (Nat.succ_le_succ (Nat.zero_le _)) (by
      have hx := cat_sum E st
      show 2 * 0 + ((st.map (tV E)).map fun v => v.category).sum + (nativeFrameWords "java/lang/System" "arraycopy" 5 + 11) ≤ 64 * (d + 1)
      have hy : nativeFrameWords "java/lang/System" "arraycopy" 5 ≤ 30 := by decide +kernel
      omega)
  have e1 : copied (vp_cell (E.2.2.1 0) (n0, .inl f)) (vp_cell (E.2.2.1 0) (n1, .inl g)) sp dp k = vp_cell (E.2.2.1 0) (n1, .inl (va_cpy f g sp.toNatClampNeg dp.toNatClampNeg k.toNatClampNeg)) := va_copied (fun z => .int z) _ _ f g h4
  rw [e1] at X' step
  generalize hC1 : vp_cell (E.2.2.1 0) (n1, .inl (va_cpy f g sp.toNatClampNeg dp.toNatClampNeg k.toNatClampNeg)) = C1 at X' step
  have hlt : E.1 + a1 < H.size := (Array.getElem?_eq_some_iff.mp hc1).1
  have hheap : ((T.setVm vm').setCell (E.1 + a1) C1).heap = H.setIfInBounds (E.1 + a1) C1 := by rw [← hT]; rfl
  have oq : ∀ q : Nat, q ≠ E.1 + a1 → (H.setIfInBounds (E.1 + a1) C1)[q]? = H[q]? := fun q hq => by simp [Array.getElem?_setIfInBounds, Ne.symm hq]
  have hz : (H.setIfInBounds (E.1 + a1) C1).size = H.size := by simp
  obtain ⟨t, b1, b2⟩ := kk E p e s0 m args below meth cd C hE (H.setIfInBounds (E.1 + a1) C1) _ lm (hH.set ha1 (by
      show (H.setIfInBounds (E.1 + a1) C1)[E.1 + a1]? = some (vp_cell (E.2.2.1 0) (n1, .inl (va_cpy f g sp.toNatClampNeg dp.toNatClampNeg k.toNatClampNeg)))
      rw [hC1]
      simp [Array.getElem?_setIfInBounds, hlt]) hz oq) ⟨hS.1, fun q hq => (oq q (by omega)).trans (hS.2.1 q hq), fun x hx => by
      rcases List.mem_append.mp hx with hx | hx
      · exact hS.2.2.1 x hx
      · obtain ⟨z, -, hz⟩ := List.mem_map.mp hx
        rw [← hz]
        exact Nat.le_add_right _ _, by rw [hz]; exact hS.2.2.2⟩ hl _ hheap X'
  exact ⟨t, step t b1, b2⟩
