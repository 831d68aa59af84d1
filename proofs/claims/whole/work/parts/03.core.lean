/-! ===== the abstract heap: cells by small numbers, B + a the machine's own address of cell a; constants by numbers of their own ===== -/
abbrev AE : Type := (Nat × vp_A) ⊕ (Nat × List Value)
abbrev HP : Type := Nat → Option AE
/-- where the new cells begin, the places of the constants, the classes of arrays, classes and slots, the script -/
abbrev Ev : Type := Nat × (Nat → Nat) × (Nat → ClassId) × va_G × Nat × (Nat → Int32)
/-- the class String's own formatter: a cell, or null -/
def fmVx (E : Ev) : Value := if E.2.1 202 = 0 then .ref (E.2.1 201) else .null
def tV (E : Ev) (v : Value) : Value := match v with
  | .ref a => .ref (E.1 + a)
  | .float k => .ref (E.2.1 k.toNat)
  | .int x => .int x
  | .long x => .long x
  | .double x => .double x
  | .null => .null
  | .retAddr _ => fmVx E
abbrev AX : Type := (Nat → Int32) ⊕ (Nat → Int64) ⊕ (Nat → UInt32) ⊕ (Nat → UInt64) ⊕ (Nat → Option Nat)
def tX (B : Nat) (x : AX) : AX := match x with
  | .inl f => .inl f
  | .inr (.inl f) => .inr (.inl f)
  | .inr (.inr (.inl f)) => .inr (.inr (.inl f))
  | .inr (.inr (.inr (.inl f))) => .inr (.inr (.inr (.inl f)))
  | .inr (.inr (.inr (.inr f))) => .inr (.inr (.inr (.inr (fun i => (f i).map (fun a => B + a)))))
def tE (E : Ev) (e : AE) : va_E := match e with
  | .inl (k, n, x) => .inl (E.2.2.1 k, n, tX E.1 x)
  | .inr (ci, fs) => .inr (ci, fs.map (tV E))
def HR (E : Ev) (n : Nat) (h : HP) (H : Heap) : Prop := H.size = E.1 + n ∧ ∀ (a : Nat) (e : AE), h a = some e → a < n ∧ va_at E.2.2.2.1 cls (E.1 + a, tE E e) H
def up (h : HP) (a : Nat) (e : AE) : HP := fun x => if x = a then some e else h x
theorem up_s {h : HP} {a : Nat} {e : AE} : up h a e a = some e := if_pos rfl
theorem up_n {h : HP} {a b : Nat} {e : AE} (hn : b ≠ a) : up h a e b = h b := if_neg hn
theorem tV_cat (E : Ev) (v : Value) : (tV E v).category = v.category := by
  cases v with
  | retAddr x =>
    show (fmVx E).category = 1
    unfold fmVx
    by_cases h : E.2.1 202 = 0
    · rw [if_pos h]; rfl
    · rw [if_neg h]; rfl
  | _ => rfl
theorem HR.set {E : Ev} {n a : Nat} {h : HP} {e0 e : AE} {H H1 : Heap} (hH : HR E n h H) (ha : h a = some e0) (he : va_at E.2.2.2.1 cls (E.1 + a, tE E e) H1) (hz : H1.size = H.size) (ho : ∀ q, q ≠ E.1 + a → H1[q]? = H[q]?) : HR E n (up h a e) H1 := by
  refine ⟨by rw [hz]; exact hH.1, fun x e' hx => ?_⟩
  by_cases hxa : x = a
  · subst hxa
    rw [up_s] at hx
    cases hx
    exact ⟨(hH.2 _ _ ha).1, he⟩
  · rw [up_n hxa] at hx
    exact ⟨(hH.2 _ _ hx).1, (hH.2 _ _ hx).2.kept (ho _ (by show E.1 + x ≠ E.1 + a; omega))⟩
theorem HR.push {E : Ev} {n : Nat} {h : HP} {e : AE} {H H1 : Heap} (hH : HR E n h H) (he : va_at E.2.2.2.1 cls (E.1 + n, tE E e) H1) (hz : H1.size = E.1 + n + 1) (ho : ∀ q, q < E.1 + n → H1[q]? = H[q]?) : HR E (n + 1) (up h n e) H1 := by
  refine ⟨by rw [hz]; omega, fun x e' hx => ?_⟩
  by_cases hxa : x = n
  · subst hxa
    rw [up_s] at hx
    cases hx
    exact ⟨by omega, he⟩
  · rw [up_n hxa] at hx
    have h1 := (hH.2 _ _ hx).1
    exact ⟨by omega, (hH.2 _ _ hx).2.kept (ho _ (by show E.1 + x < E.1 + n; omega))⟩
/-- since the method began: what is older than all that is made here is as it was -/
def Sx (E : Ev) (s : State) (H : Heap) (locs : List Loc) : Prop := E.1 ≤ s.heap.size ∧ (∀ q, q < E.1 → H[q]? = s.heap[q]?) ∧ (∀ l ∈ locs, E.1 ≤ l.base) ∧ s.heap.size ≤ H.size
abbrev EA (E : Ev) : Nat → Prop := fun q => E.1 ≤ q
def tys (E : Ev) : List (ClassId × FieldType) := [(E.2.2.1 0, .int), (E.2.2.1 1, .byte), (E.2.2.1 2, .object "FelledByNames$Tree"), (E.2.2.1 3, .object "FelledByNames$Sheet")]
/-- the texts among the constants: who names them, where, what they are -/
def txs : List (String × Nat × String) := [("FelledByNames", 20, "htd"), ("FelledByNames", 29, "xmp"), ("FelledByNames", 81, "0-t"), ("FelledByNames", 87, "x"), ("FelledByNames$Text", 95, "|"), ("FelledByNames$Text", 97, "&"), ("FelledByNames$Text", 99, "<=>"), ("FelledByNames$Text", 101, "+-"), ("FelledByNames$Text", 103, "*/%"), ("FelledByNames$Text", 133, ")")]
def txl : List Nat := [3, 3, 3, 1, 1, 1, 3, 2, 3, 1]
def txb : List (List Int32) := [[104, 116, 100], [120, 109, 112], [48, 45, 116], [120], [124], [38], [60, 61, 62], [43, 45], [42, 47, 37], [41]]
/-- pairs of KINDS that aren't so related -/
def ncs : List (String × String) := ["FelledByNames$Tree", "FelledByNames$Beech", "FelledByNames$Oak", "FelledByNames$Sapling", "FelledByNames$Wedged", "FelledByNames$Hollow", "FelledByNames$Hill"].flatMap (fun a => (["FelledByNames$Beech", "FelledByNames$Oak", "FelledByNames$Sapling", "FelledByNames$Wedged", "FelledByNames$Hollow", "FelledByNames$Hill"].filter (fun b => !(a == b) && !([("FelledByNames$Wedged", "FelledByNames$Beech"), ("FelledByNames$Hollow", "FelledByNames$Oak"), ("FelledByNames$Hill", "FelledByNames$Sapling")].contains (a, b)))).map (fun b => (a, b)))
/-- links of members that lie in another class of the same nest -/
def nls : List (String × Nat × MethodName × String) := [("FelledByNames$World", 161, ⟨"FelledByNames", "clamp", "(III)I"⟩, "FelledByNames"), ("FelledByNames$World", 106, ⟨"FelledByNames", "cell", "(II)I"⟩, "FelledByNames"), ("FelledByNames$World", 80, ⟨"FelledByNames", "newTree", "(II)LFelledByNames$Tree;"⟩, "FelledByNames"), ("FelledByNames", 248, ⟨"FelledByNames$World", "fall", "(LFelledByNames$Tree;I)V"⟩, "FelledByNames"), ("FelledByNames$World", 114, ⟨"FelledByNames", "areTwo", "(II)Z"⟩, "FelledByNames"), ("FelledByNames$Sheet", 15, ⟨"FelledByNames", "clamp", "(III)I"⟩, "FelledByNames")]
/-- pairs of KINDS that are so related -/
def css : List (String × String) := [("FelledByNames$Wedged", "FelledByNames$Beech"), ("FelledByNames$Hollow", "FelledByNames$Oak"), ("FelledByNames$Hill", "FelledByNames$Sapling"), ("FelledByNames$Beech", "FelledByNames$Tree"), ("FelledByNames$Oak", "FelledByNames$Tree"), ("FelledByNames$Sapling", "FelledByNames$Tree"), ("FelledByNames$Wedged", "FelledByNames$Tree"), ("FelledByNames$Hollow", "FelledByNames$Tree"), ("FelledByNames$Hill", "FelledByNames$Tree")]
def Gx (E : Ev) (U : State) (H : Heap) : Prop := va_K E.2.2.2.1 cls (tys E) U ∧ (∀ q ∈ ncs, va_Nc q.1 q.2 U) ∧ vk_S 10 txl txb (fun i => E.2.1 i) (fun i => E.2.1 (100 + i)) (EA E) U H ∧ (∀ (i : Nat) (q : String × Nat × String), txs[i]? = some q → vk_R q.1 q.2.1 q.2.2 (E.2.1 i) U) ∧ va_Z "java/lang/String" "COMPACT_STRINGS" "Z" (.int 1) (EA E) U H ∧ va_T .int (E.2.1 200) E.2.2.2.2.1 (fun j => .int (E.2.2.2.2.2 j)) (EA E) U H ∧ va_AO "FelledByNames$Tree" U ∧ va_AO "FelledByNames$Sheet" U ∧ va_Z "jdk/internal/util/Preconditions" "SIOOBE_FORMATTER" "Ljava/util/function/BiFunction;" (fmVx E) (EA E) U H ∧ (∀ q ∈ nls, va_Nw (.methodLinkNest q.1 q.2.1 q.2.2.1 q.2.2.2) U) ∧ ∀ q ∈ css, va_Nw (.castable q.1 q.2) U
theorem Gx.go {E : Ev} {s U : State} (h : Gx E s s.heap) (hW : s.WarmedH U.vm) (hq : ∀ q, q < E.1 → U.heap[q]? = s.heap[q]?) : Gx E U U.heap := by
  have hk : ∀ a : Nat, a < s.heap.size → ¬ EA E a → U.heap[a]? = s.heap[a]? := fun a _ h2 => hq a (Nat.not_le.mp h2)
  obtain ⟨h1, h2, h3, h4, h5, h6, h7, h8, h9, h10, h11⟩ := h
  exact ⟨h1.moved hW.alike, fun q hq => (h2 q hq).moved hW.alike, (h3.kept hk).moved hW.alike, fun i q hi => (h4 i q hi).warm hW, (h5.kept hk).moved hW.alike, (h6.kept hk).moved hW.alike, h7.moved hW.alike, h8.moved hW.alike, (h9.kept hk).moved hW.alike, fun q hq => va_Nw.warmM hW (h10 q hq), fun q hq => va_Nw.warmC hW (h11 q hq)⟩
theorem Gx.call {E : Ev} {U : State} {g : JFrame} {mk : MethodId} {a : Array Value} (h : Gx E U U.heap) : Gx E (U.calling g mk a) (U.calling g mk a).heap := by
  obtain ⟨h1, h2, h3, h4, h5, h6, h7, h8, h9, h10, h11⟩ := h
  have hr : U.vm.Alike (U.calling g mk a).vm := Vm.Alike.refl U.vm
  exact ⟨h1.moved hr, fun q hq => (h2 q hq).moved hr, h3.moved hr, fun i q hi => vk_R.same rfl (h4 i q hi), h5.moved hr, h6.moved hr, h7.moved hr, h8.moved hr, h9.moved hr, fun q hq => va_tabs (A := #[]) (u := U) rfl rfl (h10 q hq), fun q hq => va_tabs (A := #[]) (u := U) rfl rfl (h11 q hq)⟩
/-! ===== a method: its name, its bytes, its locals, its answer ===== -/
abbrev MD : Type := MethodName × ByteArray × Nat × Option FieldType × (Ev → Prop)
def wsM (M : MD) : List Cond := Cond.code M.1 M.2.1 M.2.2.1 M.2.2.2.1 :: tb
def rmd (d mc ms : Nat) : Room := { frames := d, cells := mc, slots := ms, locals := 64 * d }
abbrev QT : Type := Option Value → Nat → HP → Prop
def Pst (E : Ev) (Q : QT) : Array Value → State → Outcome → State → Prop := fun _ st oc t => ∃ (r : Option Value) (n : Nat) (h : HP), oc = .returned (r.map (tV E)) ∧ Q r n h ∧ HR E n h t.heap ∧ (∀ q, q < E.1 → t.heap[q]? = st.heap[q]?) ∧ st.heap.size ≤ t.heap.size
def Pre (E : Ev) (n : Nat) (h : HP) (U : State) : Prop := HR E n h U.heap ∧ Gx E U U.heap ∧ E.1 ≤ U.heap.size
/-- A CONTRACT: from the heap h of n cells, with arguments vs: the method returns, with Q; depth d, at most mc cells of ms slots are made -/
def Ct (l : Launch) (M : MD) (d mc ms : Nat) (vs : List Value) (n : Nat) (h : HP) (Q : QT) : Prop :=
  ∀ E : Ev, Met l M.1 (wsM M) (rmd d mc ms) (va_Pc (vs.map (tV E)) (Pre E n h)) (Pst E Q) mc ms (EA E)
/-- what a walk through M's body takes along -/
def Cx (M : MD) (E : Ev) (p : Program) (s : State) (m : MethodId) (args : Array Value) (meth : Method) (c : Code) : Prop :=
  p.tables.exec = Jvm.exec ∧ c.code = M.2.1 ∧ c.maxLocals = M.2.2.1 ∧ meth.sig.returnType = M.2.2.2.1 ∧ s.vm.findClass M.1.cls = some m.cls ∧ (∀ w ∈ tb, w.before args s = true) ∧ meth.locks = false ∧ meth.name = M.1.name ∧ Gx E s s.heap
def tL (E : Ev) (ls : List (Nat × Value)) : List (Nat × Value) := ls.map (fun q => (q.1, tV E q.2))
/-- THE WALK: M stands at pc, with locals ls, stack st, heap h of n cells, c cells of s slots made: it comes to its end, with Q -/
def V (l : Launch) (M : MD) (d mc ms pc : Nat) (ls : List (Nat × Value)) (st : List Value) (n : Nat) (h : HP) (c s : Nat) (Q : QT) : Prop :=
  ∀ (E : Ev) (p : Program) (e : Env) (s0 : State) (m : MethodId) (args : Array Value) (below : List Frame) (meth : Method) (cd : Code), Cx M E p s0 m args meth cd → M.2.2.2.2 E →
    ∀ (H : Heap) (locs : List Loc) (lm : Array Slot), HR E n h H → Sx E s0 H locs → lv_has lm M.2.2.1 (tL E ls) →
      W p l e (rmd d mc ms) s0 m args below meth cd H locs c s (MQ below (Pst E Q) args s0 mc ms (EA E)) (F0 m pc lm (st.map (tV E)))
theorem lv_args_map (E : Ev) : ∀ (vs : List Value) (i : Nat), lv_args i (vs.map (tV E)) = tL E (lv_args i vs) := by
  intro vs
  induction vs with
  | nil => intro i; rfl
  | cons v vs ih =>
    intro i
    show (i, tV E v) :: lv_args (if (tV E v).category = 2 then i + 2 else i + 1) (vs.map (tV E)) = (i, tV E v) :: tL E (lv_args (if v.category = 2 then i + 2 else i + 1) vs)
    rw [tV_cat, ih]
theorem lg_sl_len (E : Ev) : ∀ vs : List Value, (lg_sl (vs.map (tV E))).length = (lg_sl vs).length := by
  intro vs
  induction vs with
  | nil => rfl
  | cons v vs ih =>
    have e1 : lg_sl ((v :: vs).map (tV E)) = (if (tV E v).category = 2 then [Slot.val (tV E v), .second] else [.val (tV E v)]) ++ lg_sl (vs.map (tV E)) := by simp [lg_sl]
    have e2 : lg_sl (v :: vs) = (if v.category = 2 then [Slot.val v, .second] else [.val v]) ++ lg_sl vs := by simp [lg_sl]
    rw [e1, e2, List.length_append, List.length_append, ih, tV_cat]
    by_cases hc : v.category = 2 <;> simp [hc]
/-- a contract out of a walk from the method's first instruction -/
theorem Ct.of {l : Launch} {M : MD} {d mc ms : Nat} {vs : List Value} {n : Nat} {h : HP} {Q : QT} (hE : ∀ E, M.2.2.2.2 E) (hp : plainName M.1.cls = true) (hv : (lg_sl vs).length ≤ M.2.2.1) (k : V l M d mc ms 0 (lv_args 0 vs) [] n h 0 0 Q) : Ct l M d mc ms vs n h Q := by
  intro E
  refine Met.ofW (cc := M.2.1) (maxL := M.2.2.1) (ret := M.2.2.2.1) hp rfl ?_
  intro p e s m args below meth c s₁ B hml hpre
  obtain ⟨rfl, hH, hG, hB⟩ := hpre
  have hts : ∀ w ∈ tb, w.before (vs.map (tV E)).toArray s = true := fun w hw => atoms_spec (ws := wsM M) B.pre w (List.mem_cons_of_mem _ hw)
  have hl := lv_entry (vs.map (tV E)) (n := M.2.2.1) (by rw [lg_sl_len]; exact hv)
  rw [lg_entry_eq]
  rw [lv_args_map] at hl
  exact k E p e s m _ below meth c ⟨B.exec, B.bytes, hml, B.returns, findClass_of_methodNamed B.named, hts, B.notSynchronized, (name_of_methodNamed B.named B.method).1, hG⟩ (hE E) s.heap [] _ hH ⟨hB, fun _ _ => rfl, fun _ h => (by cases h), Nat.le_refl _⟩ hl
