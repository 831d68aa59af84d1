section VR
variable {l : Launch} {M : MD} {d mc ms pc : Nat} {ls : List (Nat × Value)} {st : List Value} {n : Nat} {h : HP} {c s : Nat} {Q : QT}
theorem V.wd {c' s' : Nat} (h1 : c ≤ c') (h2 : s ≤ s') (k : V l M d mc ms pc ls st n h c' s' Q) : V l M d mc ms pc ls st n h c s Q :=
  fun E p e s0 m args below meth cd C hE H locs lm hH hS hl => W.widen h1 h2 (k E p e s0 m args below meth cd C hE H locs lm hH hS hl)
/-- fewer locals -/
def lkp : List (Nat × Value) → Nat → Option Value
  | [], _ => none
  | (j, v) :: l, i => bif Nat.beq j i then some v else lkp l i
theorem lkp_mem : ∀ {ls : List (Nat × Value)} {i : Nat} {v : Value}, lkp ls i = some v → (i, v) ∈ ls
  | [], _, _, h => by cases h
  | (j, w) :: l, i, v, h => by
    by_cases hj : Nat.beq j i = true
    · rw [lkp, hj] at h
      cases h
      rw [Nat.eq_of_beq_eq_true hj]
      exact List.mem_cons_self
    · rw [lkp, Bool.not_eq_true _ |>.mp hj] at h
      exact List.mem_cons_of_mem _ (lkp_mem h)
theorem tL_at {E : Ev} {lm : Array Slot} {N i : Nat} {v : Value} (hl : lv_has lm N (tL E ls)) (hv : lkp ls i = some v) : lm[i]? = some (.val (tV E v)) :=
  hl.2.2 (i, tV E v) (List.mem_map.mpr ⟨(i, v), lkp_mem hv, rfl⟩)
/-- other locals, all known -/
theorem V.lc {ls' : List (Nat × Value)} (hs : ls'.map (fun q => lkp ls q.1) = ls'.map (fun q => some q.2)) (k : V l M d mc ms pc ls' st n h c s Q) : V l M d mc ms pc ls st n h c s Q := by
  intro E p e s0 m args below meth cd C hE H locs lm hH hS hl
  refine k E p e s0 m args below meth cd C hE H locs lm hH hS ⟨hl.1, hl.2.1, fun q hq => ?_⟩
  obtain ⟨⟨i, v⟩, hm, rfl⟩ := List.mem_map.mp hq
  have h2 : lkp ls i = some v := by
    have := List.map_inj_left.mp hs (i, v) hm
    exact this
  exact tL_at hl h2
/-- less known of the heap -/
theorem V.hp {h' : HP} (hs : ∀ a e, h' a = some e → h a = some e) (k : V l M d mc ms pc ls st n h' c s Q) : V l M d mc ms pc ls st n h c s Q :=
  fun E p e s0 m args below meth cd C hE H locs lm hH hS hl => k E p e s0 m args below meth cd C hE H locs lm ⟨hH.1, fun a e ha => hH.2 a e (hs a e ha)⟩ hS hl
def sto (ls : List (Nat × Value)) (i : Nat) (v : Value) : List (Nat × Value) := (i, v) :: ls.filter (fun q => !(q.1 == i) && !(q.1 + 1 == i && q.2.category == 2))
def sto2 (ls : List (Nat × Value)) (i : Nat) (v : Value) : List (Nat × Value) := (i, v) :: ls.filter (fun q => !(q.1 == i) && (!(q.1 == i + 1) && !(q.1 + 1 == i && q.2.category == 2)))
theorem sto_t (E : Ev) (ls : List (Nat × Value)) (i : Nat) (v : Value) : (i, tV E v) :: (tL E ls).filter (fun q => !(q.1 == i) && !(q.1 + 1 == i && q.2.category == 2)) = tL E (sto ls i v) := by
  simp only [tL, sto, List.map_cons, List.filter_map, Function.comp_def, tV_cat]
theorem sto2_t (E : Ev) (ls : List (Nat × Value)) (i : Nat) (v : Value) : (i, tV E v) :: (tL E ls).filter (fun q => !(q.1 == i) && (!(q.1 == i + 1) && !(q.1 + 1 == i && q.2.category == 2))) = tL E (sto2 ls i v) := by
  simp only [tL, sto2, List.map_cons, List.filter_map, Function.comp_def, tV_cat]

theorem V.iconst {i : Int} (hd : decode M.2.1 pc = .ok (.iconst i, 1)) (k : V l M d mc ms (pc + 1) ls (.int (Int32.ofInt i) :: st) n h c s Q) : V l M d mc ms pc ls (st) n h c s Q :=
  fun E p e s0 m args below meth cd C hE H locs lm hH hS hl => lv_iconst C.1 C.2.1 hd rfl (k E p e s0 m args below meth cd C hE H locs lm hH hS hl)
theorem V.bipush {i : Int} (hd : decode M.2.1 pc = .ok (.bipush i, 2)) (k : V l M d mc ms (pc + 2) ls (.int (Int8.ofInt i).toInt32 :: st) n h c s Q) : V l M d mc ms pc ls (st) n h c s Q :=
  fun E p e s0 m args below meth cd C hE H locs lm hH hS hl => lv_bipush C.1 C.2.1 hd rfl (k E p e s0 m args below meth cd C hE H locs lm hH hS hl)
theorem V.sipush {i : Int} (hd : decode M.2.1 pc = .ok (.sipush i, 3)) (k : V l M d mc ms (pc + 3) ls (.int (Int16.ofInt i).toInt32 :: st) n h c s Q) : V l M d mc ms pc ls (st) n h c s Q :=
  fun E p e s0 m args below meth cd C hE H locs lm hH hS hl => lv_sipush C.1 C.2.1 hd rfl (k E p e s0 m args below meth cd C hE H locs lm hH hS hl)
theorem V.lconst {i : Fin 2} (hd : decode M.2.1 pc = .ok (.lconst i, 1)) (k : V l M d mc ms (pc + 1) ls (.long (Int64.ofNat i) :: st) n h c s Q) : V l M d mc ms pc ls (st) n h c s Q :=
  fun E p e s0 m args below meth cd C hE H locs lm hH hS hl => lv_lconst C.1 C.2.1 hd rfl (k E p e s0 m args below meth cd C hE H locs lm hH hS hl)
theorem V.null (hd : decode M.2.1 pc = .ok (.aconst_null, 1)) (k : V l M d mc ms (pc + 1) ls (.null :: st) n h c s Q) : V l M d mc ms pc ls (st) n h c s Q :=
  fun E p e s0 m args below meth cd C hE H locs lm hH hS hl => lv_null C.1 C.2.1 hd (k E p e s0 m args below meth cd C hE H locs lm hH hS hl)
theorem V.iconst_ {i : Int} (v : Int32) (hd : decode M.2.1 pc = .ok (.iconst i, 1)) (hv : Int32.ofInt i = v) (k : V l M d mc ms (pc + 1) ls (.int v :: st) n h c s Q) : V l M d mc ms pc ls st n h c s Q :=
  fun E p e s0 m args below meth cd C hE H locs lm hH hS hl => lv_iconst C.1 C.2.1 hd hv (k E p e s0 m args below meth cd C hE H locs lm hH hS hl)
theorem V.bipush_ {i : Int} (v : Int32) (hd : decode M.2.1 pc = .ok (.bipush i, 2)) (hv : (Int8.ofInt i).toInt32 = v) (k : V l M d mc ms (pc + 2) ls (.int v :: st) n h c s Q) : V l M d mc ms pc ls st n h c s Q :=
  fun E p e s0 m args below meth cd C hE H locs lm hH hS hl => lv_bipush C.1 C.2.1 hd hv (k E p e s0 m args below meth cd C hE H locs lm hH hS hl)
theorem V.sipush_ {i : Int} (v : Int32) (hd : decode M.2.1 pc = .ok (.sipush i, 3)) (hv : (Int16.ofInt i).toInt32 = v) (k : V l M d mc ms (pc + 3) ls (.int v :: st) n h c s Q) : V l M d mc ms pc ls st n h c s Q :=
  fun E p e s0 m args below meth cd C hE H locs lm hH hS hl => lv_sipush C.1 C.2.1 hd hv (k E p e s0 m args below meth cd C hE H locs lm hH hS hl)
theorem V.lconst_ {i : Fin 2} (v : Int64) (hd : decode M.2.1 pc = .ok (.lconst i, 1)) (hv : Int64.ofNat (i : Nat) = v) (k : V l M d mc ms (pc + 1) ls (.long v :: st) n h c s Q) : V l M d mc ms pc ls st n h c s Q :=
  fun E p e s0 m args below meth cd C hE H locs lm hH hS hl => lv_lconst C.1 C.2.1 hd hv (k E p e s0 m args below meth cd C hE H locs lm hH hS hl)
theorem V.ldc {i : Nat} {v : Int32} (hd : decode M.2.1 pc = .ok (.ldc i, 2)) (hw : Cond.constant M.1.cls i v ∈ tb) (k : V l M d mc ms (pc + 2) ls (.int v :: st) n h c s Q) : V l M d mc ms pc ls st n h c s Q :=
  fun E p e s0 m args below meth cd C hE H locs lm hH hS hl => lv_ldc C.1 C.2.1 C.2.2.2.2.1 (C.2.2.2.2.2.1 _ hw) hd (k E p e s0 m args below meth cd C hE H locs lm hH hS hl)
theorem V.ldcw {i : Nat} {v : Int32} (hd : decode M.2.1 pc = .ok (.ldc_w i, 3)) (hw : Cond.constant M.1.cls i v ∈ tb) (k : V l M d mc ms (pc + 3) ls (.int v :: st) n h c s Q) : V l M d mc ms pc ls st n h c s Q :=
  fun E p e s0 m args below meth cd C hE H locs lm hH hS hl => lv_ldcw C.1 C.2.1 C.2.2.2.2.1 (C.2.2.2.2.2.1 _ hw) hd (k E p e s0 m args below meth cd C hE H locs lm hH hS hl)
theorem V.ldc2 {i : Nat} {v : Int64} (hd : decode M.2.1 pc = .ok (.ldc2_w i, 3)) (hw : Cond.constantLong M.1.cls i v ∈ tb) (k : V l M d mc ms (pc + 3) ls (.long v :: st) n h c s Q) : V l M d mc ms pc ls st n h c s Q :=
  fun E p e s0 m args below meth cd C hE H locs lm hH hS hl => lv_ldc2 C.1 C.2.1 C.2.2.2.2.1 (C.2.2.2.2.2.1 _ hw) hd (k E p e s0 m args below meth cd C hE H locs lm hH hS hl)
theorem V.iload_n {i : Fin 4} {x : Int32} (hd : decode M.2.1 pc = .ok (.iload_n i, 1)) (hv : lkp ls i = some (.int x)) (k : V l M d mc ms (pc + 1) ls (.int x :: st) n h c s Q) : V l M d mc ms pc ls st n h c s Q :=
  fun E p e s0 m args below meth cd C hE H locs lm hH hS hl => lv_iload_n C.1 C.2.1 hd rfl (tL_at hl hv) (k E p e s0 m args below meth cd C hE H locs lm hH hS hl)
theorem V.iload {i : Nat} {x : Int32} (hd : decode M.2.1 pc = .ok (.iload i, 2)) (hv : lkp ls i = some (.int x)) (k : V l M d mc ms (pc + 2) ls (.int x :: st) n h c s Q) : V l M d mc ms pc ls st n h c s Q :=
  fun E p e s0 m args below meth cd C hE H locs lm hH hS hl => lv_iload C.1 C.2.1 hd (tL_at hl hv) (k E p e s0 m args below meth cd C hE H locs lm hH hS hl)
theorem V.lload_n {i : Fin 4} {x : Int64} (hd : decode M.2.1 pc = .ok (.lload_n i, 1)) (hv : lkp ls i = some (.long x)) (k : V l M d mc ms (pc + 1) ls (.long x :: st) n h c s Q) : V l M d mc ms pc ls st n h c s Q :=
  fun E p e s0 m args below meth cd C hE H locs lm hH hS hl => lv_lload_n C.1 C.2.1 hd rfl (tL_at hl hv) (k E p e s0 m args below meth cd C hE H locs lm hH hS hl)
theorem V.lload {i : Nat} {x : Int64} (hd : decode M.2.1 pc = .ok (.lload i, 2)) (hv : lkp ls i = some (.long x)) (k : V l M d mc ms (pc + 2) ls (.long x :: st) n h c s Q) : V l M d mc ms pc ls st n h c s Q :=
  fun E p e s0 m args below meth cd C hE H locs lm hH hS hl => lv_lload C.1 C.2.1 hd (tL_at hl hv) (k E p e s0 m args below meth cd C hE H locs lm hH hS hl)
theorem V.aload_n {i : Fin 4} {x : Nat} (hd : decode M.2.1 pc = .ok (.aload_n i, 1)) (hv : lkp ls i = some (.ref x)) (k : V l M d mc ms (pc + 1) ls (.ref x :: st) n h c s Q) : V l M d mc ms pc ls st n h c s Q :=
  fun E p e s0 m args below meth cd C hE H locs lm hH hS hl => lv_aload_n C.1 C.2.1 hd rfl (tL_at hl hv) (k E p e s0 m args below meth cd C hE H locs lm hH hS hl)
theorem V.aload {i : Nat} {x : Nat} (hd : decode M.2.1 pc = .ok (.aload i, 2)) (hv : lkp ls i = some (.ref x)) (k : V l M d mc ms (pc + 2) ls (.ref x :: st) n h c s Q) : V l M d mc ms pc ls st n h c s Q :=
  fun E p e s0 m args below meth cd C hE H locs lm hH hS hl => lv_aload C.1 C.2.1 hd (tL_at hl hv) (k E p e s0 m args below meth cd C hE H locs lm hH hS hl)
theorem V.aloadK_n {i : Fin 4} {x : UInt32} (hd : decode M.2.1 pc = .ok (.aload_n i, 1)) (hv : lkp ls i = some (.float x)) (k : V l M d mc ms (pc + 1) ls (.float x :: st) n h c s Q) : V l M d mc ms pc ls st n h c s Q :=
  fun E p e s0 m args below meth cd C hE H locs lm hH hS hl => lv_aload_n C.1 C.2.1 hd rfl (tL_at hl hv) (k E p e s0 m args below meth cd C hE H locs lm hH hS hl)
theorem V.aloadK {i : Nat} {x : UInt32} (hd : decode M.2.1 pc = .ok (.aload i, 2)) (hv : lkp ls i = some (.float x)) (k : V l M d mc ms (pc + 2) ls (.float x :: st) n h c s Q) : V l M d mc ms pc ls st n h c s Q :=
  fun E p e s0 m args below meth cd C hE H locs lm hH hS hl => lv_aload C.1 C.2.1 hd (tL_at hl hv) (k E p e s0 m args below meth cd C hE H locs lm hH hS hl)
theorem V.istore_n {i : Fin 4} {x : Int32} (hd : decode M.2.1 pc = .ok (.istore_n i, 1)) (hn : (i : Nat) < M.2.2.1) (k : V l M d mc ms (pc + 1) (sto ls i (.int x)) st n h c s Q) : V l M d mc ms pc ls (.int x :: st) n h c s Q :=
  fun E p e s0 m args below meth cd C hE H locs lm hH hS hl => lv_istore_n C.1 C.2.1 hd rfl hl hn rfl (fun lm hl => k E p e s0 m args below meth cd C hE H locs lm hH hS (by rw [← sto_t]; exact hl))
theorem V.istore {i : Nat} {x : Int32} (hd : decode M.2.1 pc = .ok (.istore i, 2)) (hn : (i : Nat) < M.2.2.1) (k : V l M d mc ms (pc + 2) (sto ls i (.int x)) st n h c s Q) : V l M d mc ms pc ls (.int x :: st) n h c s Q :=
  fun E p e s0 m args below meth cd C hE H locs lm hH hS hl => lv_istore C.1 C.2.1 hd hl hn rfl (fun lm hl => k E p e s0 m args below meth cd C hE H locs lm hH hS (by rw [← sto_t]; exact hl))
theorem V.lstore_n {i : Fin 4} {x : Int64} (hd : decode M.2.1 pc = .ok (.lstore_n i, 1)) (hn : (i : Nat) + 1 < M.2.2.1) (k : V l M d mc ms (pc + 1) (sto2 ls i (.long x)) st n h c s Q) : V l M d mc ms pc ls (.long x :: st) n h c s Q :=
  fun E p e s0 m args below meth cd C hE H locs lm hH hS hl => lv_lstore_n C.1 C.2.1 hd rfl hl hn rfl (fun lm hl => k E p e s0 m args below meth cd C hE H locs lm hH hS (by rw [← sto2_t]; exact hl))
theorem V.astore_n {i : Fin 4} {x : Nat} (hd : decode M.2.1 pc = .ok (.astore_n i, 1)) (hn : (i : Nat) < M.2.2.1) (k : V l M d mc ms (pc + 1) (sto ls i (.ref x)) st n h c s Q) : V l M d mc ms pc ls (.ref x :: st) n h c s Q :=
  fun E p e s0 m args below meth cd C hE H locs lm hH hS hl => lv_astore_n C.1 C.2.1 hd rfl hl hn rfl (fun lm hl => k E p e s0 m args below meth cd C hE H locs lm hH hS (by rw [← sto_t]; exact hl))
theorem V.astore {i : Nat} {x : Nat} (hd : decode M.2.1 pc = .ok (.astore i, 2)) (hn : (i : Nat) < M.2.2.1) (k : V l M d mc ms (pc + 2) (sto ls i (.ref x)) st n h c s Q) : V l M d mc ms pc ls (.ref x :: st) n h c s Q :=
  fun E p e s0 m args below meth cd C hE H locs lm hH hS hl => lv_astore C.1 C.2.1 hd hl hn rfl (fun lm hl => k E p e s0 m args below meth cd C hE H locs lm hH hS (by rw [← sto_t]; exact hl))
theorem V.iinc {i : Nat} {j : Int} {x v : Int32} (hd : decode M.2.1 pc = .ok (.iinc i j, 3)) (hv : lkp ls i = some (.int x)) (he : x + Int32.ofInt j = v) (hn : i < M.2.2.1) (k : V l M d mc ms (pc + 3) (sto ls i (.int v)) st n h c s Q) : V l M d mc ms pc ls st n h c s Q := by
  intro E p e s0 m args below meth cd C hE H locs lm hH hS hl
  obtain ⟨kk, hk⟩ := List.getElem?_of_mem (show (i, Value.int x) ∈ tL E ls from List.mem_map.mpr ⟨(i, .int x), lkp_mem hv, rfl⟩)
  exact lv_iinc C.1 C.2.1 hd hl hk he hn rfl (fun lm hl => k E p e s0 m args below meth cd C hE H locs lm hH hS (by rw [← sto_t]; exact hl))
theorem V.iadd {x y : Int32} (hd : decode M.2.1 pc = .ok (.iadd, 1)) (k : V l M d mc ms (pc + 1) ls (.int (x + y) :: st) n h c s Q) : V l M d mc ms pc ls (.int y :: .int x :: st) n h c s Q :=
  fun E p e s0 m args below meth cd C hE H locs lm hH hS hl => lv_iadd C.1 C.2.1 hd (k E p e s0 m args below meth cd C hE H locs lm hH hS hl)
theorem V.isub {x y : Int32} (hd : decode M.2.1 pc = .ok (.isub, 1)) (k : V l M d mc ms (pc + 1) ls (.int (x - y) :: st) n h c s Q) : V l M d mc ms pc ls (.int y :: .int x :: st) n h c s Q :=
  fun E p e s0 m args below meth cd C hE H locs lm hH hS hl => lv_isub C.1 C.2.1 hd (k E p e s0 m args below meth cd C hE H locs lm hH hS hl)
theorem V.imul {x y : Int32} (hd : decode M.2.1 pc = .ok (.imul, 1)) (k : V l M d mc ms (pc + 1) ls (.int (x * y) :: st) n h c s Q) : V l M d mc ms pc ls (.int y :: .int x :: st) n h c s Q :=
  fun E p e s0 m args below meth cd C hE H locs lm hH hS hl => lv_imul C.1 C.2.1 hd (k E p e s0 m args below meth cd C hE H locs lm hH hS hl)
theorem V.iand {x y : Int32} (hd : decode M.2.1 pc = .ok (.iand, 1)) (k : V l M d mc ms (pc + 1) ls (.int (x &&& y) :: st) n h c s Q) : V l M d mc ms pc ls (.int y :: .int x :: st) n h c s Q :=
  fun E p e s0 m args below meth cd C hE H locs lm hH hS hl => lv_iand C.1 C.2.1 hd (k E p e s0 m args below meth cd C hE H locs lm hH hS hl)
theorem V.ior {x y : Int32} (hd : decode M.2.1 pc = .ok (.ior, 1)) (k : V l M d mc ms (pc + 1) ls (.int (x ||| y) :: st) n h c s Q) : V l M d mc ms pc ls (.int y :: .int x :: st) n h c s Q :=
  fun E p e s0 m args below meth cd C hE H locs lm hH hS hl => lv_ior C.1 C.2.1 hd (k E p e s0 m args below meth cd C hE H locs lm hH hS hl)
theorem V.ixor {x y : Int32} (hd : decode M.2.1 pc = .ok (.ixor, 1)) (k : V l M d mc ms (pc + 1) ls (.int (x ^^^ y) :: st) n h c s Q) : V l M d mc ms pc ls (.int y :: .int x :: st) n h c s Q :=
  fun E p e s0 m args below meth cd C hE H locs lm hH hS hl => lv_ixor C.1 C.2.1 hd (k E p e s0 m args below meth cd C hE H locs lm hH hS hl)
theorem V.ishl {x y : Int32} (hd : decode M.2.1 pc = .ok (.ishl, 1)) (k : V l M d mc ms (pc + 1) ls (.int (x <<< (y &&& 31)) :: st) n h c s Q) : V l M d mc ms pc ls (.int y :: .int x :: st) n h c s Q :=
  fun E p e s0 m args below meth cd C hE H locs lm hH hS hl => lv_ishl C.1 C.2.1 hd (k E p e s0 m args below meth cd C hE H locs lm hH hS hl)
theorem V.ishr {x y : Int32} (hd : decode M.2.1 pc = .ok (.ishr, 1)) (k : V l M d mc ms (pc + 1) ls (.int (x >>> (y &&& 31)) :: st) n h c s Q) : V l M d mc ms pc ls (.int y :: .int x :: st) n h c s Q :=
  fun E p e s0 m args below meth cd C hE H locs lm hH hS hl => lv_ishr C.1 C.2.1 hd (k E p e s0 m args below meth cd C hE H locs lm hH hS hl)
theorem V.iushr {x y : Int32} (hd : decode M.2.1 pc = .ok (.iushr, 1)) (k : V l M d mc ms (pc + 1) ls (.int (x.toUInt32 >>> (y.toUInt32 &&& Int32.toUInt32 31)).toInt32 :: st) n h c s Q) : V l M d mc ms pc ls (.int y :: .int x :: st) n h c s Q :=
  fun E p e s0 m args below meth cd C hE H locs lm hH hS hl => lv_iushr C.1 C.2.1 hd rfl (k E p e s0 m args below meth cd C hE H locs lm hH hS hl)
theorem V.land {x y : Int64} (hd : decode M.2.1 pc = .ok (.land, 1)) (k : V l M d mc ms (pc + 1) ls (.long (x &&& y) :: st) n h c s Q) : V l M d mc ms pc ls (.long y :: .long x :: st) n h c s Q :=
  fun E p e s0 m args below meth cd C hE H locs lm hH hS hl => lv_land C.1 C.2.1 hd (k E p e s0 m args below meth cd C hE H locs lm hH hS hl)
theorem V.lor {x y : Int64} (hd : decode M.2.1 pc = .ok (.lor, 1)) (k : V l M d mc ms (pc + 1) ls (.long (x ||| y) :: st) n h c s Q) : V l M d mc ms pc ls (.long y :: .long x :: st) n h c s Q :=
  fun E p e s0 m args below meth cd C hE H locs lm hH hS hl => lv_lor C.1 C.2.1 hd (k E p e s0 m args below meth cd C hE H locs lm hH hS hl)
theorem V.ladd {x y : Int64} (hd : decode M.2.1 pc = .ok (.ladd, 1)) (k : V l M d mc ms (pc + 1) ls (.long (x + y) :: st) n h c s Q) : V l M d mc ms pc ls (.long y :: .long x :: st) n h c s Q :=
  fun E p e s0 m args below meth cd C hE H locs lm hH hS hl => lv_ladd C.1 C.2.1 hd (k E p e s0 m args below meth cd C hE H locs lm hH hS hl)
theorem V.lushr {x : Int64} {y : Int32} (hd : decode M.2.1 pc = .ok (.lushr, 1)) (k : V l M d mc ms (pc + 1) ls (.long (x.toUInt64 >>> (y.toInt64.toUInt64 &&& Int64.toUInt64 63)).toInt64 :: st) n h c s Q) : V l M d mc ms pc ls (.int y :: .long x :: st) n h c s Q :=
  fun E p e s0 m args below meth cd C hE H locs lm hH hS hl => lv_lushr C.1 C.2.1 hd rfl (k E p e s0 m args below meth cd C hE H locs lm hH hS hl)
theorem V.lshr {x : Int64} {y : Int32} (hd : decode M.2.1 pc = .ok (.lshr, 1)) (k : V l M d mc ms (pc + 1) ls (.long (x >>> (y.toInt64 &&& 63)) :: st) n h c s Q) : V l M d mc ms pc ls (.int y :: .long x :: st) n h c s Q :=
  fun E p e s0 m args below meth cd C hE H locs lm hH hS hl => lv_lshr C.1 C.2.1 hd rfl (k E p e s0 m args below meth cd C hE H locs lm hH hS hl)
theorem V.lshl {x : Int64} {y : Int32} (hd : decode M.2.1 pc = .ok (.lshl, 1)) (k : V l M d mc ms (pc + 1) ls (.long (x <<< (y.toInt64 &&& 63)) :: st) n h c s Q) : V l M d mc ms pc ls (.int y :: .long x :: st) n h c s Q :=
  fun E p e s0 m args below meth cd C hE H locs lm hH hS hl => lv_lshl C.1 C.2.1 hd rfl (k E p e s0 m args below meth cd C hE H locs lm hH hS hl)
theorem V.idiv {x y : Int32} (hd : decode M.2.1 pc = .ok (.idiv, 1)) (hne : ¬ y = 0) (k : V l M d mc ms (pc + 1) ls (.int (x / y) :: st) n h c s Q) : V l M d mc ms pc ls (.int y :: .int x :: st) n h c s Q :=
  fun E p e s0 m args below meth cd C hE H locs lm hH hS hl => lv_idiv C.1 C.2.1 hd hne (k E p e s0 m args below meth cd C hE H locs lm hH hS hl)
theorem V.irem {x y : Int32} (hd : decode M.2.1 pc = .ok (.irem, 1)) (hne : ¬ y = 0) (k : V l M d mc ms (pc + 1) ls (.int (x - x / y * y) :: st) n h c s Q) : V l M d mc ms pc ls (.int y :: .int x :: st) n h c s Q :=
  fun E p e s0 m args below meth cd C hE H locs lm hH hS hl => lv_irem C.1 C.2.1 hd hne (k E p e s0 m args below meth cd C hE H locs lm hH hS hl)
theorem V.ineg {x : Int32} (hd : decode M.2.1 pc = .ok (.ineg, 1)) (k : V l M d mc ms (pc + 1) ls (.int (-x) :: st) n h c s Q) : V l M d mc ms pc ls (.int x :: st) n h c s Q :=
  fun E p e s0 m args below meth cd C hE H locs lm hH hS hl => lv_ineg C.1 C.2.1 hd (k E p e s0 m args below meth cd C hE H locs lm hH hS hl)
theorem V.i2l {x : Int32} (hd : decode M.2.1 pc = .ok (.i2l, 1)) (k : V l M d mc ms (pc + 1) ls (.long x.toInt64 :: st) n h c s Q) : V l M d mc ms pc ls (.int x :: st) n h c s Q :=
  fun E p e s0 m args below meth cd C hE H locs lm hH hS hl => lv_i2l C.1 C.2.1 hd rfl (k E p e s0 m args below meth cd C hE H locs lm hH hS hl)
theorem V.l2i {x : Int64} (hd : decode M.2.1 pc = .ok (.l2i, 1)) (k : V l M d mc ms (pc + 1) ls (.int x.toInt32 :: st) n h c s Q) : V l M d mc ms pc ls (.long x :: st) n h c s Q :=
  fun E p e s0 m args below meth cd C hE H locs lm hH hS hl => lv_l2i C.1 C.2.1 hd rfl (k E p e s0 m args below meth cd C hE H locs lm hH hS hl)
theorem V.i2b {x : Int32} (hd : decode M.2.1 pc = .ok (.i2b, 1)) (k : V l M d mc ms (pc + 1) ls (.int x.toInt8.toInt32 :: st) n h c s Q) : V l M d mc ms pc ls (.int x :: st) n h c s Q :=
  fun E p e s0 m args below meth cd C hE H locs lm hH hS hl => lv_i2b C.1 C.2.1 hd rfl (k E p e s0 m args below meth cd C hE H locs lm hH hS hl)
theorem V.i2s {x : Int32} (hd : decode M.2.1 pc = .ok (.i2s, 1)) (k : V l M d mc ms (pc + 1) ls (.int x.toInt16.toInt32 :: st) n h c s Q) : V l M d mc ms pc ls (.int x :: st) n h c s Q :=
  fun E p e s0 m args below meth cd C hE H locs lm hH hS hl => lv_i2s C.1 C.2.1 hd rfl (k E p e s0 m args below meth cd C hE H locs lm hH hS hl)
theorem V.i2c {x : Int32} (hd : decode M.2.1 pc = .ok (.i2c, 1)) (k : V l M d mc ms (pc + 1) ls (.int (x.toUInt32 % 65536).toInt32 :: st) n h c s Q) : V l M d mc ms pc ls (.int x :: st) n h c s Q :=
  fun E p e s0 m args below meth cd C hE H locs lm hH hS hl => lv_i2c C.1 C.2.1 hd rfl (k E p e s0 m args below meth cd C hE H locs lm hH hS hl)
theorem V.dup {v : Value} (hv : v.category = 1) (hd : decode M.2.1 pc = .ok (.dup, 1)) (k : V l M d mc ms (pc + 1) ls (v :: v :: st) n h c s Q) : V l M d mc ms pc ls (v :: st) n h c s Q :=
  fun E p e s0 m args below meth cd C hE H locs lm hH hS hl => lv_dup C.1 C.2.1 hd (by rw [tV_cat]; exact hv) (k E p e s0 m args below meth cd C hE H locs lm hH hS hl)
theorem V.pop {v : Value} (hv : v.category = 1) (hd : decode M.2.1 pc = .ok (.pop, 1)) (k : V l M d mc ms (pc + 1) ls (st) n h c s Q) : V l M d mc ms pc ls (v :: st) n h c s Q :=
  fun E p e s0 m args below meth cd C hE H locs lm hH hS hl => lv_pop C.1 C.2.1 hd (by rw [tV_cat]; exact hv) (k E p e s0 m args below meth cd C hE H locs lm hH hS hl)
theorem V.dup_x1 {v w : Value} (hv : v.category = 1) (hw : w.category = 1) (hd : decode M.2.1 pc = .ok (.dup_x1, 1)) (k : V l M d mc ms (pc + 1) ls (v :: w :: v :: st) n h c s Q) : V l M d mc ms pc ls (v :: w :: st) n h c s Q :=
  fun E p e s0 m args below meth cd C hE H locs lm hH hS hl => lv_dup_x1 C.1 C.2.1 hd (by rw [tV_cat]; exact hv) (by rw [tV_cat]; exact hw) (k E p e s0 m args below meth cd C hE H locs lm hH hS hl)
theorem V.dup2 {v w : Value} (hv : v.category = 1) (hw : w.category = 1) (hd : decode M.2.1 pc = .ok (.dup2, 1)) (k : V l M d mc ms (pc + 1) ls (v :: w :: v :: w :: st) n h c s Q) : V l M d mc ms pc ls (v :: w :: st) n h c s Q :=
  fun E p e s0 m args below meth cd C hE H locs lm hH hS hl => lv_dup2_11 C.1 C.2.1 hd (by rw [tV_cat]; exact hv) (by rw [tV_cat]; exact hw) (k E p e s0 m args below meth cd C hE H locs lm hH hS hl)
theorem V.if_eq {x : Int32} {off : Int} {tgt : Nat} (hd : decode M.2.1 pc = .ok (.ifCond .eq off, 3)) (ht : (pc : Int) + off = (tgt : Int)) (kt : x = 0 → V l M d mc ms tgt ls st n h c s Q) (kf : ¬ x = 0 → V l M d mc ms (pc + 3) ls st n h c s Q) : V l M d mc ms pc ls (.int x :: st) n h c s Q :=
  fun E p e s0 m args below meth cd C hE H locs lm hH hS hl => lv_if_eq C.1 C.2.1 hd ht (fun q => (kt q E p e s0 m args below meth cd C hE H locs lm hH hS hl)) (fun q => (kf q E p e s0 m args below meth cd C hE H locs lm hH hS hl))
theorem V.icmp_eq {x y : Int32} {off : Int} {tgt : Nat} (hd : decode M.2.1 pc = .ok (.if_icmp .eq off, 3)) (ht : (pc : Int) + off = (tgt : Int)) (kt : x = y → V l M d mc ms tgt ls st n h c s Q) (kf : ¬ x = y → V l M d mc ms (pc + 3) ls st n h c s Q) : V l M d mc ms pc ls (.int y :: .int x :: st) n h c s Q :=
  fun E p e s0 m args below meth cd C hE H locs lm hH hS hl => lv_icmp_eq C.1 C.2.1 hd ht (fun q => (kt q E p e s0 m args below meth cd C hE H locs lm hH hS hl)) (fun q => (kf q E p e s0 m args below meth cd C hE H locs lm hH hS hl))
theorem V.if_ne {x : Int32} {off : Int} {tgt : Nat} (hd : decode M.2.1 pc = .ok (.ifCond .ne off, 3)) (ht : (pc : Int) + off = (tgt : Int)) (kt : ¬ x = 0 → V l M d mc ms tgt ls st n h c s Q) (kf : x = 0 → V l M d mc ms (pc + 3) ls st n h c s Q) : V l M d mc ms pc ls (.int x :: st) n h c s Q :=
  fun E p e s0 m args below meth cd C hE H locs lm hH hS hl => lv_if_ne C.1 C.2.1 hd ht (fun q => (kt q E p e s0 m args below meth cd C hE H locs lm hH hS hl)) (fun q => (kf q E p e s0 m args below meth cd C hE H locs lm hH hS hl))
theorem V.icmp_ne {x y : Int32} {off : Int} {tgt : Nat} (hd : decode M.2.1 pc = .ok (.if_icmp .ne off, 3)) (ht : (pc : Int) + off = (tgt : Int)) (kt : ¬ x = y → V l M d mc ms tgt ls st n h c s Q) (kf : x = y → V l M d mc ms (pc + 3) ls st n h c s Q) : V l M d mc ms pc ls (.int y :: .int x :: st) n h c s Q :=
  fun E p e s0 m args below meth cd C hE H locs lm hH hS hl => lv_icmp_ne C.1 C.2.1 hd ht (fun q => (kt q E p e s0 m args below meth cd C hE H locs lm hH hS hl)) (fun q => (kf q E p e s0 m args below meth cd C hE H locs lm hH hS hl))
theorem V.if_lt {x : Int32} {off : Int} {tgt : Nat} (hd : decode M.2.1 pc = .ok (.ifCond .lt off, 3)) (ht : (pc : Int) + off = (tgt : Int)) (kt : x < 0 → V l M d mc ms tgt ls st n h c s Q) (kf : ¬ x < 0 → V l M d mc ms (pc + 3) ls st n h c s Q) : V l M d mc ms pc ls (.int x :: st) n h c s Q :=
  fun E p e s0 m args below meth cd C hE H locs lm hH hS hl => lv_if_lt C.1 C.2.1 hd ht (fun q => (kt q E p e s0 m args below meth cd C hE H locs lm hH hS hl)) (fun q => (kf q E p e s0 m args below meth cd C hE H locs lm hH hS hl))
theorem V.icmp_lt {x y : Int32} {off : Int} {tgt : Nat} (hd : decode M.2.1 pc = .ok (.if_icmp .lt off, 3)) (ht : (pc : Int) + off = (tgt : Int)) (kt : x < y → V l M d mc ms tgt ls st n h c s Q) (kf : ¬ x < y → V l M d mc ms (pc + 3) ls st n h c s Q) : V l M d mc ms pc ls (.int y :: .int x :: st) n h c s Q :=
  fun E p e s0 m args below meth cd C hE H locs lm hH hS hl => lv_icmp_lt C.1 C.2.1 hd ht (fun q => (kt q E p e s0 m args below meth cd C hE H locs lm hH hS hl)) (fun q => (kf q E p e s0 m args below meth cd C hE H locs lm hH hS hl))
theorem V.if_ge {x : Int32} {off : Int} {tgt : Nat} (hd : decode M.2.1 pc = .ok (.ifCond .ge off, 3)) (ht : (pc : Int) + off = (tgt : Int)) (kt : 0 ≤ x → V l M d mc ms tgt ls st n h c s Q) (kf : ¬ 0 ≤ x → V l M d mc ms (pc + 3) ls st n h c s Q) : V l M d mc ms pc ls (.int x :: st) n h c s Q :=
  fun E p e s0 m args below meth cd C hE H locs lm hH hS hl => lv_if_ge C.1 C.2.1 hd ht (fun q => (kt q E p e s0 m args below meth cd C hE H locs lm hH hS hl)) (fun q => (kf q E p e s0 m args below meth cd C hE H locs lm hH hS hl))
theorem V.icmp_ge {x y : Int32} {off : Int} {tgt : Nat} (hd : decode M.2.1 pc = .ok (.if_icmp .ge off, 3)) (ht : (pc : Int) + off = (tgt : Int)) (kt : y ≤ x → V l M d mc ms tgt ls st n h c s Q) (kf : ¬ y ≤ x → V l M d mc ms (pc + 3) ls st n h c s Q) : V l M d mc ms pc ls (.int y :: .int x :: st) n h c s Q :=
  fun E p e s0 m args below meth cd C hE H locs lm hH hS hl => lv_icmp_ge C.1 C.2.1 hd ht (fun q => (kt q E p e s0 m args below meth cd C hE H locs lm hH hS hl)) (fun q => (kf q E p e s0 m args below meth cd C hE H locs lm hH hS hl))
theorem V.if_gt {x : Int32} {off : Int} {tgt : Nat} (hd : decode M.2.1 pc = .ok (.ifCond .gt off, 3)) (ht : (pc : Int) + off = (tgt : Int)) (kt : 0 < x → V l M d mc ms tgt ls st n h c s Q) (kf : ¬ 0 < x → V l M d mc ms (pc + 3) ls st n h c s Q) : V l M d mc ms pc ls (.int x :: st) n h c s Q :=
  fun E p e s0 m args below meth cd C hE H locs lm hH hS hl => lv_if_gt C.1 C.2.1 hd ht (fun q => (kt q E p e s0 m args below meth cd C hE H locs lm hH hS hl)) (fun q => (kf q E p e s0 m args below meth cd C hE H locs lm hH hS hl))
theorem V.icmp_gt {x y : Int32} {off : Int} {tgt : Nat} (hd : decode M.2.1 pc = .ok (.if_icmp .gt off, 3)) (ht : (pc : Int) + off = (tgt : Int)) (kt : y < x → V l M d mc ms tgt ls st n h c s Q) (kf : ¬ y < x → V l M d mc ms (pc + 3) ls st n h c s Q) : V l M d mc ms pc ls (.int y :: .int x :: st) n h c s Q :=
  fun E p e s0 m args below meth cd C hE H locs lm hH hS hl => lv_icmp_gt C.1 C.2.1 hd ht (fun q => (kt q E p e s0 m args below meth cd C hE H locs lm hH hS hl)) (fun q => (kf q E p e s0 m args below meth cd C hE H locs lm hH hS hl))
theorem V.if_le {x : Int32} {off : Int} {tgt : Nat} (hd : decode M.2.1 pc = .ok (.ifCond .le off, 3)) (ht : (pc : Int) + off = (tgt : Int)) (kt : x ≤ 0 → V l M d mc ms tgt ls st n h c s Q) (kf : ¬ x ≤ 0 → V l M d mc ms (pc + 3) ls st n h c s Q) : V l M d mc ms pc ls (.int x :: st) n h c s Q :=
  fun E p e s0 m args below meth cd C hE H locs lm hH hS hl => lv_if_le C.1 C.2.1 hd ht (fun q => (kt q E p e s0 m args below meth cd C hE H locs lm hH hS hl)) (fun q => (kf q E p e s0 m args below meth cd C hE H locs lm hH hS hl))
theorem V.icmp_le {x y : Int32} {off : Int} {tgt : Nat} (hd : decode M.2.1 pc = .ok (.if_icmp .le off, 3)) (ht : (pc : Int) + off = (tgt : Int)) (kt : x ≤ y → V l M d mc ms tgt ls st n h c s Q) (kf : ¬ x ≤ y → V l M d mc ms (pc + 3) ls st n h c s Q) : V l M d mc ms pc ls (.int y :: .int x :: st) n h c s Q :=
  fun E p e s0 m args below meth cd C hE H locs lm hH hS hl => lv_icmp_le C.1 C.2.1 hd ht (fun q => (kt q E p e s0 m args below meth cd C hE H locs lm hH hS hl)) (fun q => (kf q E p e s0 m args below meth cd C hE H locs lm hH hS hl))
theorem V.goto {off : Int} {tgt : Nat} (hd : decode M.2.1 pc = .ok (.goto off, 3)) (ht : (pc : Int) + off = (tgt : Int)) (k : V l M d mc ms tgt ls st n h c s Q) : V l M d mc ms pc ls st n h c s Q :=
  fun E p e s0 m args below meth cd C hE H locs lm hH hS hl => lv_goto C.1 C.2.1 hd ht (k E p e s0 m args below meth cd C hE H locs lm hH hS hl)
theorem V.ifnull {x : Nat} {off : Int} (hd : decode M.2.1 pc = .ok (.ifnull off, 3)) (k : V l M d mc ms (pc + 3) ls st n h c s Q) : V l M d mc ms pc ls (.ref x :: st) n h c s Q :=
  fun E p e s0 m args below meth cd C hE H locs lm hH hS hl => lv_ifnull C.1 C.2.1 hd (k E p e s0 m args below meth cd C hE H locs lm hH hS hl)
theorem V.ifnonnull {x : Nat} {off : Int} {tgt : Nat} (hd : decode M.2.1 pc = .ok (.ifnonnull off, 3)) (ht : (pc : Int) + off = (tgt : Int)) (k : V l M d mc ms tgt ls st n h c s Q) : V l M d mc ms pc ls (.ref x :: st) n h c s Q :=
  fun E p e s0 m args below meth cd C hE H locs lm hH hS hl => lv_ifnonnull C.1 C.2.1 hd ht (k E p e s0 m args below meth cd C hE H locs lm hH hS hl)
theorem V.ifnullN {off : Int} {tgt : Nat} (hd : decode M.2.1 pc = .ok (.ifnull off, 3)) (ht : (pc : Int) + off = (tgt : Int)) (k : V l M d mc ms tgt ls st n h c s Q) : V l M d mc ms pc ls (.null :: st) n h c s Q :=
  fun E p e s0 m args below meth cd C hE H locs lm hH hS hl => lv_ifnullN C.1 C.2.1 hd ht (k E p e s0 m args below meth cd C hE H locs lm hH hS hl)
theorem V.ifnonnullN {off : Int} (hd : decode M.2.1 pc = .ok (.ifnonnull off, 3)) (k : V l M d mc ms (pc + 3) ls st n h c s Q) : V l M d mc ms pc ls (.null :: st) n h c s Q :=
  fun E p e s0 m args below meth cd C hE H locs lm hH hS hl => lv_ifnonnullN C.1 C.2.1 hd (k E p e s0 m args below meth cd C hE H locs lm hH hS hl)
theorem V.lookup {dflt : Int} {ps : Array (Int × Int)} {len : Nat} {x : Int32} {off : Int} {tgt : Nat} (hd : decode M.2.1 pc = .ok (.lookupswitch dflt ps, len)) (hp : (ps.toList.zip (ps.toList.drop 1)).all (fun (a, next) => a.1 < next.1) = true) (ho : Op.lookupswitch.offset ps.toList dflt x.toInt = off) (ht : (pc : Int) + off = (tgt : Int)) (k : V l M d mc ms tgt ls st n h c s Q) : V l M d mc ms pc ls (.int x :: st) n h c s Q :=
  fun E p e s0 m args below meth cd C hE H locs lm hH hS hl => lv_lookup C.1 C.2.1 hd hp ho ht (k E p e s0 m args below meth cd C hE H locs lm hH hS hl)
theorem V.tabOut {dflt lo hi : Int} {offs : Array Int} {len : Nat} {x : Int32} {tgt : Nat} (hd : decode M.2.1 pc = .ok (.tableswitch dflt lo hi offs, len)) (hx : x.toInt < lo ∨ hi < x.toInt) (ht : (pc : Int) + dflt = (tgt : Int)) (k : V l M d mc ms tgt ls st n h c s Q) : V l M d mc ms pc ls (.int x :: st) n h c s Q :=
  fun E p e s0 m args below meth cd C hE H locs lm hH hS hl => lv_tableOut C.1 C.2.1 hd hx ht (k E p e s0 m args below meth cd C hE H locs lm hH hS hl)
theorem V.tabIn {dflt lo hi : Int} {offs : Array Int} {len : Nat} {x : Int32} {off : Int} {tgt : Nat} (hd : decode M.2.1 pc = .ok (.tableswitch dflt lo hi offs, len)) (h1 : ¬ x.toInt < lo) (h2 : ¬ hi < x.toInt) (ho : offs[(x.toInt - lo).toNat]? = some off) (ht : (pc : Int) + off = (tgt : Int)) (k : V l M d mc ms tgt ls st n h c s Q) : V l M d mc ms pc ls (.int x :: st) n h c s Q :=
  fun E p e s0 m args below meth cd C hE H locs lm hH hS hl => lv_tableIn C.1 C.2.1 hd h1 h2 ho ht (k E p e s0 m args below meth cd C hE H locs lm hH hS hl)
theorem V.iret {x : Int32} (hd : decode M.2.1 pc = .ok (.ireturn, 1)) (hr : M.2.2.2.1 = some .int) (hc : c ≤ mc) (hs : s ≤ ms) (q : Q (some (.int x)) n h) : V l M d mc ms pc ls [.int x] n h c s Q :=
  fun E p e s0 m args below meth cd C hE H locs lm hH hS hl => W.widen hc hs (W.iret (Qc := Pst E Q) C.1 C.2.1 (C.2.2.2.1.trans hr) (fun t ht _ => ⟨some (.int x), n, h, rfl, q, by rw [ht]; exact hH, fun a ha => by rw [ht]; exact hS.2.1 a ha, by rw [ht]; exact hS.2.2.2⟩) hS.2.2.1 hd C.2.2.2.2.2.2.1)
theorem V.zret {x : Int32} {ty : FieldType} (hd : decode M.2.1 pc = .ok (.ireturn, 1)) (hr : M.2.2.2.1 = some ty) (hx : narrow ty (.int x) = .int x) (hc : c ≤ mc) (hs : s ≤ ms) (q : Q (some (.int x)) n h) : V l M d mc ms pc ls [.int x] n h c s Q :=
  fun E p e s0 m args below meth cd C hE H locs lm hH hS hl => W.widen hc hs (W.zret (Qc := Pst E Q) C.1 C.2.1 (C.2.2.2.1.trans hr) hx (fun t ht _ => ⟨some (.int x), n, h, rfl, q, by rw [ht]; exact hH, fun a ha => by rw [ht]; exact hS.2.1 a ha, by rw [ht]; exact hS.2.2.2⟩) hS.2.2.1 hd C.2.2.2.2.2.2.1)
theorem V.vret (hd : decode M.2.1 pc = .ok (.return_, 1)) (hr : M.2.2.2.1 = none) (hc : c ≤ mc) (hs : s ≤ ms) (q : Q none n h) : V l M d mc ms pc ls [] n h c s Q :=
  fun E p e s0 m args below meth cd C hE H locs lm hH hS hl => W.widen hc hs (W.vret (Qc := Pst E Q) C.1 C.2.1 (C.2.2.2.1.trans hr) (fun t ht _ => ⟨none, n, h, rfl, q, by rw [ht]; exact hH, fun a ha => by rw [ht]; exact hS.2.1 a ha, by rw [ht]; exact hS.2.2.2⟩) hS.2.2.1 hd C.2.2.2.2.2.2.1)
theorem V.aret {v : Value} {rt : FieldType} (hd : decode M.2.1 pc = .ok (.areturn, 1)) (hr : M.2.2.2.1 = some rt) (hrt : (∃ n, rt = .object n) ∨ ∃ t, rt = .array t) (hv : v = .null ∨ (∃ a, v = .ref a) ∨ ∃ a, v = .float a) (hc : c ≤ mc) (hs : s ≤ ms) (q : Q (some v) n h) : V l M d mc ms pc ls [v] n h c s Q :=
  fun E p e s0 m args below meth cd C hE H locs lm hH hS hl => W.widen hc hs (W.aret (Qc := Pst E Q) C.1 C.2.1 (C.2.2.2.1.trans hr) hrt (by rcases hv with rfl | ⟨a, rfl⟩ | ⟨a, rfl⟩; exact Or.inl rfl; exact Or.inr ⟨_, rfl⟩; exact Or.inr ⟨_, rfl⟩) (fun t ht _ => ⟨some v, n, h, rfl, q, by rw [ht]; exact hH, fun a ha => by rw [ht]; exact hS.2.1 a ha, by rw [ht]; exact hS.2.2.2⟩) hS.2.2.1 hd C.2.2.2.2.2.2.1)
end VR
