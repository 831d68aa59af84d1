/-! ===== thoughts: what days leave, and when nothing more can fall ===== -/
theorem sh1_bit : ∀ N, N < 8 → ∀ i, i < 32 → (nI 1 <<< (nI N &&& 31)).toBitVec.getLsbD i = decide (i = N) := by decide +kernel
theorem bi_ne {x : Int32} {k : Nat} (hk : k ≤ 1) (e : x = nI k) : (x = bi true ↔ ¬ x = bi false) := by
  rw [e]
  rcases (show k = 0 ∨ k = 1 by omega) with rfl | rfl <;> decide
theorem st_bit {D : Nat → Int32} {b : Bool} {i : Nat} (hi : i < 32) : ∀ N, N ≤ 8 → (stS D b N).toBitVec.getLsbD i = (decide (i < N) && decide (D (50 + 7 * i + 6) = bi b)) := by
  intro N
  induction N with
  | zero =>
    intro _
    rw [decide_eq_false (by omega), Bool.false_and]
    show (nI 0).toBitVec.getLsbD i = false
    rw [show (nI 0).toBitVec = 0#32 by decide +kernel]
    exact BitVec.getLsbD_zero
  | succ N ih =>
    intro hN
    have ih := ih (by omega)
    by_cases h : D (50 + 7 * N + 6) = bi b
    · rw [← stS_t h, Int32.toBitVec_or, BitVec.getLsbD_or, ih, sh1_bit N (by omega) i hi]
      by_cases e : i = N
      · subst e; rw [decide_eq_true h, decide_eq_true (show i < i + 1 by omega), decide_eq_true rfl, Bool.or_true]; rfl
      · rw [decide_eq_false e, Bool.or_false]
        by_cases l : i < N
        · rw [decide_eq_true l, decide_eq_true (show i < N + 1 by omega)]
        · rw [decide_eq_false l, decide_eq_false (show ¬ i < N + 1 by omega)]
    · rw [← stS_f h, ih]
      by_cases e : i = N
      · subst e; rw [decide_eq_false h, Bool.and_false, Bool.and_false]
      · by_cases l : i < N
        · rw [decide_eq_true l, decide_eq_true (show i < N + 1 by omega)]
        · rw [decide_eq_false l, decide_eq_false (show ¬ i < N + 1 by omega)]
theorem i32_ext {x y : Int32} (h : ∀ i, i < 32 → x.toBitVec.getLsbD i = y.toBitVec.getLsbD i) : x = y := by
  apply Int32.toBitVec_inj.mp
  apply BitVec.eq_of_getLsbD_eq
  intro i hi
  exact h i hi
theorem i32_0 {i : Nat} : (0 : Int32).toBitVec.getLsbD i = false := by
  rw [show (0 : Int32).toBitVec = 0#32 by decide +kernel]
  exact BitVec.getLsbD_zero
theorem stS_and {D : Nat → Int32} {b : Bool} {y : Int32} {N : Nat} (hN : N ≤ 8) : (stS D b N &&& y) = 0 ↔ ∀ i, i < N → D (50 + 7 * i + 6) = bi b → y.toBitVec.getLsbD i = false := by
  constructor
  · intro h i hi hd
    have e := congrArg (fun x : Int32 => x.toBitVec.getLsbD i) h
    have e2 : (stS D b N &&& y).toBitVec.getLsbD i = (0 : Int32).toBitVec.getLsbD i := e
    rw [Int32.toBitVec_and, BitVec.getLsbD_and, st_bit (by omega) N hN, decide_eq_true hi, decide_eq_true hd, i32_0] at e2
    simpa using e2
  · intro h
    refine i32_ext (fun i hi => ?_)
    rw [Int32.toBitVec_and, BitVec.getLsbD_and, st_bit hi N hN, i32_0]
    by_cases l : i < N
    · by_cases hd : D (50 + 7 * i + 6) = bi b
      · rw [h i l hd, Bool.and_false]
      · rw [decide_eq_false hd, Bool.and_false, Bool.false_and]
    · rw [decide_eq_false l, Bool.false_and, Bool.false_and]
theorem stS_c {D E : Nat → Int32} {b : Bool} : ∀ N, (∀ i, i < N → E (50 + 7 * i + 6) = D (50 + 7 * i + 6)) → stS E b N = stS D b N := by
  intro N
  induction N with
  | zero => intro _; rfl
  | succ N ih =>
    intro h
    by_cases g : D (50 + 7 * N + 6) = bi b
    · rw [← stS_t g, ← stS_t ((h N (by omega)).trans g), ih (fun i hi => h i (by omega))]
    · rw [← stS_f g, ← stS_f (fun z => g ((h N (by omega)).symm.trans z)), ih (fun i hi => h i (by omega))]
theorem b255_8 : ∀ i, i < 8 → (nI 255).toBitVec.getLsbD i = true := by decide +kernel
theorem stS_255 {D : Nat → Int32} {N : Nat} (hN : N ≤ 8) : (stS D true N &&& nI 255) = 0 ↔ ∀ i, i < N → ¬ D (50 + 7 * i + 6) = nI 1 := by
  rw [stS_and hN]
  constructor
  · intro h i hi hd
    have := h i hi hd
    rw [b255_8 i (by omega)] at this
    cases this
  · intro h i hi hd
    exact absurd hd (h i hi)
theorem stS_one {D : Nat → Int32} {N i : Nat} (hN : N ≤ 8) (hi : i < N) : (stS D true N &&& (nI 1 <<< (nI i &&& 31))) = 0 ↔ ¬ D (50 + 7 * i + 6) = nI 1 := by
  rw [stS_and hN]
  constructor
  · intro h hd
    have := h i hi hd
    rw [sh1_bit i (by omega) i (by omega), decide_eq_true rfl] at this
    cases this
  · intro h j hj hd
    rw [sh1_bit i (by omega) j (by omega)]
    exact decide_eq_false (fun z => by subst z; exact h hd)
section DSG
variable {cv wv : Int32 → Int32 → Int32 → Int32} {N : Nat} {ps : Nat → Nat} {np : Nat} {D : Nat → Int32}
theorem fl_tree {j : Nat} (hj : 50 ≤ j) (h6 : ¬ (j - 50) % 7 = 6) (f t : Nat) (x : XX) : (fl wv N f t x).1 j = x.1 j := fl_keep (by omega) (by omega) (by omega) f t x
theorem dayG_tree {E : Nat → Int32} {j : Nat} (hj : 44 ≤ j) (h5 : j < 50 ∨ ((j - 50) % 7 ≠ 5 ∧ (j - 50) % 7 ≠ 6)) : (dayG wv N E).1 j = E j := by
  rw [dayG_n (by omega), f3_k (by omega) (by omega) (by omega), dg2_x (by omega)]
theorem dsG_tree {j : Nat} (hp : ∀ i, i < np → ps i < 36) (hj : 44 ≤ j) (h5 : j < 50 ∨ ((j - 50) % 7 ≠ 5 ∧ (j - 50) % 7 ≠ 6)) : ∀ k, (dsG cv wv N ps np D k).1 j = D j := by
  intro k
  induction k with
  | zero => rfl
  | succ k ih =>
    show (dayG wv N (clI cv ps (dsG cv wv N ps np D k).1 np)).1 j = _
    rw [dayG_tree hj h5, clI_x (by omega) np hp]
    exact ih
theorem f3_st {j : Nat} {X : XX} : ∀ k, (itr (fst3 wv N) k X).1 (50 + 7 * j + 6) = X.1 (50 + 7 * j + 6) ∨ (itr (fst3 wv N) k X).1 (50 + 7 * j + 6) = nI 0 := by
  intro k
  induction k with
  | zero => exact Or.inl rfl
  | succ k ih =>
    show (fst3 wv N k (itr (fst3 wv N) k X)).1 _ = _ ∨ (fst3 wv N k (itr (fst3 wv N) k X)).1 _ = _
    by_cases c : ovr (itr (fst3 wv N) k X).1 k = true
    · have e : fst3 wv N k (itr (fst3 wv N) k X) = fl wv N 7 k (itr (fst3 wv N) k X) := if_pos c
      rw [e]
      rcases fl_st (wv := wv) (N := N) (j := j) 7 k (itr (fst3 wv N) k X) with h | h
      · rw [h]; exact ih
      · exact Or.inr h
    · have e : fst3 wv N k (itr (fst3 wv N) k X) = itr (fst3 wv N) k X := if_neg c
      rw [e]; exact ih
theorem dayG_st {E : Nat → Int32} {j : Nat} : (dayG wv N E).1 (50 + 7 * j + 6) = E (50 + 7 * j + 6) ∨ (dayG wv N E).1 (50 + 7 * j + 6) = nI 0 := by
  rw [dayG_n (by omega)]
  rcases f3_st (wv := wv) (N := N) (j := j) (X := (dg2 E N, [])) N with h | h
  · left; rw [h]; exact dg2_x (by omega)
  · exact Or.inr h
theorem dsG_st {j : Nat} (hp : ∀ i, i < np → ps i < 36) {k : Nat} : (dsG cv wv N ps np D (k + 1)).1 (50 + 7 * j + 6) = (dsG cv wv N ps np D k).1 (50 + 7 * j + 6) ∨ (dsG cv wv N ps np D (k + 1)).1 (50 + 7 * j + 6) = nI 0 := by
  rw [dsG_s]
  have e : clI cv ps (dsG cv wv N ps np D k).1 np (50 + 7 * j + 6) = (dsG cv wv N ps np D k).1 (50 + 7 * j + 6) := clI_x (by omega) np hp
  rw [← e]
  exact dayG_st
/-- who is down stays down -/
theorem dsG_dn {j : Nat} (hp : ∀ i, i < np → ps i < 36) {m : Nat} (h : ¬ (dsG cv wv N ps np D m).1 (50 + 7 * j + 6) = nI 1) : ∀ k, m ≤ k → ¬ (dsG cv wv N ps np D k).1 (50 + 7 * j + 6) = nI 1 := by
  intro k hk
  induction k with
  | zero => rw [Nat.le_zero.mp hk] at h; exact h
  | succ k ih =>
    by_cases e : m = k + 1
    · rw [← e]; exact h
    · have := ih (by omega)
      rcases dsG_st (cv := cv) (wv := wv) (N := N) (D := D) (j := j) hp (k := k) with g | g
      · rw [g]; exact this
      · rw [g]; decide +kernel
/-- a day on which nobody stands -/
theorem dayG_q {E : Nat → Int32} (h : ∀ i, i < N → ¬ E (50 + 7 * i + 6) = nI 1) : (dayG wv N E).2 = [] ∧ ∀ j, j ≠ 1 → (dayG wv N E).1 j = E j := by
  have e2 : dg2 E N = E := by
    funext j
    unfold dg2
    by_cases hc : 50 ≤ j ∧ (j - 50) / 7 < N ∧ (j - 50) % 7 = 5 ∧ E (50 + 7 * ((j - 50) / 7) + 6) = nI 1
    · exact absurd hc.2.2.2 (h _ hc.2.1)
    · rw [if_neg hc]
  have e3 : ∀ k, k ≤ N → itr (fst3 wv N) k (E, []) = (E, []) := by
    intro k
    induction k with
    | zero => intro _; rfl
    | succ k ih =>
      intro hk
      show fst3 wv N k (itr (fst3 wv N) k (E, [])) = _
      rw [ih (by omega)]
      unfold fst3
      rw [if_neg]
      rw [ovr_2]
      show ¬ (decide (E (50 + 7 * k + 6) = nI 1) && ov2 E k) = true
      rw [decide_eq_false (h k (by omega)), Bool.false_and]
      decide
  refine ⟨?_, fun j hj => ?_⟩
  · show (itr (fst3 wv N) N (dg2 E N, [])).2 = []
    rw [e2, e3 N (Nat.le_refl _)]
  · rw [dayG_n hj, e2, e3 N (Nat.le_refl _)]
theorem dsG_q (hp : ∀ i, i < np → ps i < 36) {m : Nat} (h : ∀ i, i < N → ¬ (dsG cv wv N ps np D m).1 (50 + 7 * i + 6) = nI 1) (f : Nat → Int32) : ∀ k, m ≤ k → (dsG cv wv N ps np D k).2 = (dsG cv wv N ps np D m).2 ∧ (∀ j, j ≠ 1 → (j < 8 ∨ 44 ≤ j) → (dsG cv wv N ps np D k).1 j = (dsG cv wv N ps np D m).1 j) ∧ dsH cv wv N ps np D f k = dsH cv wv N ps np D f m := by
  intro k hk
  induction k with
  | zero => rw [Nat.le_zero.mp hk]; exact ⟨rfl, fun _ _ _ => rfl, rfl⟩
  | succ k ih =>
    by_cases e : m = k + 1
    · rw [e]; exact ⟨rfl, fun _ _ _ => rfl, rfl⟩
    · obtain ⟨h1, h2, h3⟩ := ih (by omega)
      have hq : ∀ i, i < N → ¬ clI cv ps (dsG cv wv N ps np D k).1 np (50 + 7 * i + 6) = nI 1 := fun i hi => by
        rw [clI_x (by omega) np hp]
        exact dsG_dn hp (h i hi) k (by omega)
      obtain ⟨q1, q2⟩ := dayG_q (wv := wv) hq
      refine ⟨?_, fun j hj hj2 => ?_, ?_⟩
      · rw [dsG_s]
        show (dsG cv wv N ps np D k).2 ++ (dayG wv N (clI cv ps (dsG cv wv N ps np D k).1 np)).2 = _
        rw [q1, List.append_nil, h1]
      · rw [dsG_s]
        show (dayG wv N (clI cv ps (dsG cv wv N ps np D k).1 np)).1 j = _
        rw [q2 j hj, clI_x hj2 np hp, h2 j hj hj2]
      · rw [← h3]
        show hts (dsG cv wv N ps np D (k + 1)).1 (dayG wv N (clI cv ps (dsG cv wv N ps np D k).1 np)).2 (dsH cv wv N ps np D f k) = _
        rw [q1]
        rfl
/-- an early end of a thought says what the whole would have said -/
theorem pud_and (hN : N ≤ 8) (hp : ∀ i, i < np → ps i < 36) {m k : Nat} {y : Int32} (hm : m ≤ k) (h : m = k ∨ (stS (dsG cv wv N ps np D m).1 true N &&& y) = 0) : (stS (dsG cv wv N ps np D m).1 true N &&& y) = 0 ↔ (stS (dsG cv wv N ps np D k).1 true N &&& y) = 0 := by
  rcases h with rfl | h
  · exact Iff.rfl
  · refine ⟨fun _ => ?_, fun _ => h⟩
    rw [stS_and hN] at h ⊢
    intro i hi hd
    refine h i hi ?_
    refine Decidable.byContradiction (fun z => ?_)
    exact dsG_dn hp (j := i) (m := m) z k hm hd
theorem pud_255 (hN : N ≤ 8) (hp : ∀ i, i < np → ps i < 36) {m k : Nat} (hm : m ≤ k) (h : m = k ∨ (stS (dsG cv wv N ps np D m).1 true N &&& nI 255) = 0) (f : Nat → Int32) : (dsG cv wv N ps np D k).2 = (dsG cv wv N ps np D m).2 ∧ (∀ j, j ≠ 1 → (j < 8 ∨ 44 ≤ j) → (dsG cv wv N ps np D k).1 j = (dsG cv wv N ps np D m).1 j) ∧ dsH cv wv N ps np D f k = dsH cv wv N ps np D f m := by
  rcases h with rfl | h
  · exact ⟨rfl, fun _ _ _ => rfl, rfl⟩
  · exact dsG_q hp ((stS_255 hN).mp h) f k hm
end DSG
theorem WB.tb {D : Nat → Int32} {x v : Int32} (h : WB D) (hv : ∃ k, k ≤ 9 ∧ v = nI k) : ∀ k, k ≤ 6 → WB (tbI D x v k) := by
  intro k
  induction k with
  | zero => intro _; exact h
  | succ k ih =>
    intro hk
    by_cases c : ((x >>> (nI k &&& 31)) &&& nI 1) = nI 1
    · rw [tbI_t c]; exact (ih (by omega)).ut (by omega) hv
    · rw [tbI_f c]; exact ih (by omega)
theorem tbI_x {D : Nat → Int32} {x v : Int32} {j : Nat} (hj : j < 44 ∨ 50 ≤ j) : ∀ k, k ≤ 6 → tbI D x v k j = D j := by
  intro k
  induction k with
  | zero => intro _; rfl
  | succ k ih =>
    intro hk
    by_cases c : ((x >>> (nI k &&& 31)) &&& nI 1) = nI 1
    · rw [tbI_t c, pk_un (by omega)]; exact ih (by omega)
    · rw [tbI_f c]; exact ih (by omega)
theorem WB.kp {D : Nat → Int32} {p : Nat} (h : WB D) (hp : p < 6) : ∀ k, k ≤ 6 → WB (kpD D p k) := by
  intro k
  induction k with
  | zero => intro _; exact h
  | succ k ih =>
    intro hk
    by_cases c : k = p
    · have := ih (by omega)
      rw [c] at this ⊢
      rw [kpD_e]; exact this
    · rw [kpD_t c]; exact ((ih (by omega)).uh (by omega) ⟨99, by omega, rfl⟩).uh (by omega) ⟨99, by omega, rfl⟩
/-! the class as it stands when it thinks -/
def CI (R W Z : Nat → Nat → Int32) (T : Nat → Nat → Nat) (kn : Kn) (n N dy : Nat) (Wc0 : Nat → Nat) (len0 : Nat) (Wc1 : Nat → Nat) (len1 : Nat) : Prop := N ≤ 8 ∧ W 0 0 = nI N ∧ W 0 1 = nI dy ∧ dy ≤ 9999 ∧ WB (W 0) ∧ WB (W 1) ∧ TX R Z 0 Wc0 len0 ∧ TX R Z 1 Wc1 len1 ∧ TI T kn n ∧ KO (cvc Wc0 len0) kn
/-- what thinking leaves as it is -/
def JF (R W Z R1 W1 Z1 : Nat → Nat → Int32) : Prop := (∀ a, a ≠ 8 → a ≠ 14 → ¬ (37 ≤ a ∧ a ≤ 40) → R1 a = R a) ∧ (∀ b j, b ≠ 36 → b ≠ 39 → Z1 b j = Z b j) ∧ ∀ v, v ≠ 1 → W1 v = W v
theorem JF.id {R W Z : Nat → Nat → Int32} : JF R W Z R W Z := ⟨fun _ _ _ _ => rfl, fun _ _ _ _ => rfl, fun _ _ => rfl⟩
theorem JF.tr {R W Z R1 W1 Z1 R2 W2 Z2 : Nat → Nat → Int32} (h : JF R W Z R1 W1 Z1) (g : JF R1 W1 Z1 R2 W2 Z2) : JF R W Z R2 W2 Z2 := ⟨fun a h1 h2 h3 => (g.1 a h1 h2 h3).trans (h.1 a h1 h2 h3), fun b j h1 h2 => (g.2.1 b j h1 h2).trans (h.2.1 b j h1 h2), fun v hv => (g.2.2 v hv).trans (h.2.2 v hv)⟩
theorem JF.tx {R W Z R1 W1 Z1 : Nat → Nat → Int32} {u len : Nat} {Wc : Nat → Nat} (h : JF R W Z R1 W1 Z1) (hu : u < 2) (g : TX R Z u Wc len) : TX R1 Z1 u Wc len := ⟨g.1, by rw [h.2.1 _ _ (by omega) (by omega)]; exact g.2.1, fun k hk => by rw [h.1 _ (by omega) (by omega) (by omega)]; exact g.2.2 k hk⟩
theorem FR.jf {R W Z R1 W1 Z1 : Nat → Nat → Int32} (h : FR 1 R Z W R1 Z1 W1) : JF R W Z R1 W1 Z1 := by
  have w5 : wb 1 = 32 := rfl
  exact ⟨fun a h1 h2 h3 => h.1 a h1 h2 (by omega) (by omega), fun b j h1 h2 => h.2.1 b j (by omega), h.2.2⟩
/-- the kinds of the trees that one thinks of are the trees' own -/
def AL (W : Nat → Nat → Int32) : Prop := ∀ i, i < 8 → W 1 (50 + 7 * i + 0) = W 0 (50 + 7 * i + 0)
theorem CI.go {R W Z R1 W1 Z1 : Nat → Nat → Int32} {T T1 : Nat → Nat → Nat} {kn kn1 : Kn} {n n1 N dy len0 len1 : Nat} {Wc0 Wc1 : Nat → Nat} (h : CI R W Z T kn n N dy Wc0 len0 Wc1 len1) (j : JF R W Z R1 W1 Z1) (hB : WB (W1 1)) (hT : TI T1 kn1 n1) (hK : KO (cvc Wc0 len0) kn1) : CI R1 W1 Z1 T1 kn1 n1 N dy Wc0 len0 Wc1 len1 := by
  obtain ⟨h1, h2, h3, h4, h5, h6, h7, h8, h9, h10⟩ := h
  have e : W1 0 = W 0 := j.2.2 0 (by decide)
  refine ⟨h1, ?_, ?_, h4, ?_, hB, j.tx (by decide) h7, j.tx (by decide) h8, hT, hK⟩
  · rw [e]; exact h2
  · rw [e]; exact h3
  · rw [e]; exact h5
