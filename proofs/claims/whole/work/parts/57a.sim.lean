/-! ===== two worlds that agree in all that matters go alike ===== -/
def AG (N : Nat) (P : Nat → Prop) (D E : Nat → Int32) : Prop := ∀ j, (j < 6 ∨ (44 ≤ j ∧ j < 50 + 7 * N) ∨ (8 ≤ j ∧ j < 44 ∧ P (j - 8))) → E j = D j
section SIM
variable {wv : Int32 → Int32 → Int32 → Int32} {N : Nat} {P : Nat → Prop} {D E : Nat → Int32}
theorem AG.u {j : Nat} {x : Int32} (h : AG N P D E) : AG N P (upd D j x) (upd E j x) := fun a ha => by
  by_cases e : a = j
  · subst e; rw [pk_us, pk_us]
  · rw [pk_un e, pk_un e]; exact h a ha
theorem AG.lo {j : Nat} (h : AG N P D E) (hj : j < 6) : E j = D j := h j (Or.inl hj)
theorem AG.tr {i k : Nat} (h : AG N P D E) (hi : i < N) (hk : k < 7) : E (50 + 7 * i + k) = D (50 + 7 * i + k) := h _ (Or.inr (Or.inl (by omega)))
theorem AG.rch_ {i : Nat} (h : AG N P D E) (hi : i < N) : rch E i = rch D i := by unfold rch; rw [h.tr hi (by omega), h.tr hi (by omega)]
theorem AG.cnd_ {t k : Nat} (h : AG N P D E) (ht : t < N) (hk : k < N) : cnd E t k = cnd D t k := by
  unfold cnd
  rw [h.rch_ ht, h.tr hk (by omega), h.tr hk (by omega), h.tr hk (by omega), h.tr ht (by omega), h.tr ht (by omega)]
theorem AG.gd {i : Nat} (h : AG N P D E) (hi : i < N) : AG N P (gdn wv D i) (gdn wv E i) := by
  unfold gdn
  rw [h.rch_ hi, h.tr hi (by omega), h.tr hi (by omega), h.tr hi (by omega), h.lo (show 2 < 6 by omega), h.lo (show 3 < 6 by omega), h.lo (show 4 < 6 by omega)]
  exact ((h.u).u).u
theorem AG.fl_ : ∀ (f t : Nat) (x y : XX), t < N → AG N P x.1 y.1 → y.2 = x.2 → AG N P (fl wv N f t x).1 (fl wv N f t y).1 ∧ (fl wv N f t y).2 = (fl wv N f t x).2 := by
  intro f
  induction f with
  | zero =>
    intro t x y ht h e
    refine ⟨AG.gd h ht, ?_⟩
    show y.2 ++ [t] = x.2 ++ [t]
    rw [e]
  | succ f ih =>
    intro t x y ht h e
    have go : ∀ (m k : Nat) (x y : XX), k + m ≤ N → AG N P x.1 y.1 → y.2 = x.2 → AG N P (itf (gst wv N f t) m k x).1 (itf (gst wv N f t) m k y).1 ∧ (itf (gst wv N f t) m k y).2 = (itf (gst wv N f t) m k x).2 := by
      intro m
      induction m with
      | zero => intro k x y _ h e; exact ⟨h, e⟩
      | succ m ihm =>
        intro k x y hk h e
        show AG N P (itf (gst wv N f t) m (k + 1) (gst wv N f t k x)).1 (itf (gst wv N f t) m (k + 1) (gst wv N f t k y)).1 ∧ (itf (gst wv N f t) m (k + 1) (gst wv N f t k y)).2 = (itf (gst wv N f t) m (k + 1) (gst wv N f t k x)).2
        have ec := AG.cnd_ h ht (show k < N by omega)
        by_cases c : cnd x.1 t k = true
        · have e1 : gst wv N f t k x = fl wv N f k x := if_pos c
          have e2 : gst wv N f t k y = fl wv N f k y := if_pos (by rw [ec]; exact c)
          obtain ⟨g1, g2⟩ := ih k x y (by omega) h e
          rw [e1, e2]
          exact ihm (k + 1) _ _ (by omega) g1 g2
        · have e1 : gst wv N f t k x = x := if_neg c
          have e2 : gst wv N f t k y = y := if_neg (by rw [ec]; exact c)
          rw [e1, e2]
          exact ihm (k + 1) x y (by omega) h e
    exact go N 0 (gdn wv x.1 t, x.2 ++ [t]) (gdn wv y.1 t, y.2 ++ [t]) (by omega) (AG.gd h ht) (by show y.2 ++ [t] = x.2 ++ [t]; rw [e])
theorem AG.lim_ {i : Nat} (h : AG N P D E) (hi : i < N) : lim E i = lim D i := by
  unfold lim
  rw [h.tr hi (by omega), h.tr hi (by omega), h.tr hi (by omega), h.lo (show 1 < 6 by omega)]
theorem AG.grw_ {i : Nat} (h : AG N P D E) (hi : i < N) : grw E i = grw D i := by
  unfold grw
  rw [h.tr hi (by omega), h.lo (show 1 < 6 by omega)]
theorem AG.g2 (h : AG N P D E) : AG N P (dg2 D N) (dg2 E N) := by
  intro j hj
  by_cases hc : 50 ≤ j ∧ (j - 50) / 7 < N ∧ (j - 50) % 7 = 5
  · have e6 := h.tr (i := (j - 50) / 7) hc.2.1 (show 6 < 7 by omega)
    have eg := h.grw_ (i := (j - 50) / 7) hc.2.1
    unfold dg2
    rw [e6, eg, h j hj]
  · have n1 : dg2 E N j = E j := if_neg (fun z => hc ⟨z.1, z.2.1, z.2.2.1⟩)
    have n2 : dg2 D N j = D j := if_neg (fun z => hc ⟨z.1, z.2.1, z.2.2.1⟩)
    rw [n1, n2]; exact h j hj
/-- every standing tree's names are among the pairs that agree -/
def SP (N : Nat) (P : Nat → Prop) (D : Nat → Int32) : Prop := ∀ i, i < N → D (50 + 7 * i + 6) = nI 1 → P (6 * tN D (50 + 7 * i + 2) + tN D (50 + 7 * i + 3)) ∧ P (6 * tN D (50 + 7 * i + 3) + tN D (50 + 7 * i + 2))
def TB (N : Nat) (D : Nat → Int32) : Prop := ∀ i, i < N → tN D (50 + 7 * i + 2) ≤ 5 ∧ tN D (50 + 7 * i + 3) ≤ 5
theorem AG.ovr_ {i : Nat} (h : AG N P D E) (hs : SP N P D) (ht : TB N D) (hi : i < N) : ovr E i = ovr D i := by
  have e6 := h.tr hi (show 6 < 7 by omega)
  have e2 := h.tr hi (show 2 < 7 by omega)
  have e3 := h.tr hi (show 3 < 7 by omega)
  rw [ovr_2, ovr_2, e6]
  by_cases c : D (50 + 7 * i + 6) = nI 1
  · obtain ⟨p1, p2⟩ := hs i hi c
    obtain ⟨b1, b2⟩ := ht i hi
    congr 1
    unfold ov2
    have t2 : tN E (50 + 7 * i + 2) = tN D (50 + 7 * i + 2) := by unfold tN; rw [e2]
    have t3 : tN E (50 + 7 * i + 3) = tN D (50 + 7 * i + 3) := by unfold tN; rw [e3]
    rw [t2, t3, h.lim_ hi, h (8 + 6 * tN D (50 + 7 * i + 2) + tN D (50 + 7 * i + 3)) (Or.inr (Or.inr ⟨by omega, by omega, by rw [show 8 + 6 * tN D (50 + 7 * i + 2) + tN D (50 + 7 * i + 3) - 8 = 6 * tN D (50 + 7 * i + 2) + tN D (50 + 7 * i + 3) by omega]; exact p1⟩)), h (8 + 6 * tN D (50 + 7 * i + 3) + tN D (50 + 7 * i + 2)) (Or.inr (Or.inr ⟨by omega, by omega, by rw [show 8 + 6 * tN D (50 + 7 * i + 3) + tN D (50 + 7 * i + 2) - 8 = 6 * tN D (50 + 7 * i + 3) + tN D (50 + 7 * i + 2) by omega]; exact p2⟩))]
  · rw [decide_eq_false c, Bool.false_and, Bool.false_and]
theorem SP.st (h : SP N P D) (hk : ∀ j, 50 ≤ j → ((j - 50) % 7 = 2 ∨ (j - 50) % 7 = 3) → E j = D j) (hs : ∀ i, i < N → E (50 + 7 * i + 6) = nI 1 → D (50 + 7 * i + 6) = nI 1) : SP N P E := fun i hi c => by
  have := h i hi (hs i hi c)
  unfold tN at *
  rw [hk _ (by omega) (by omega), hk _ (by omega) (by omega)]
  exact this
theorem TB.st (h : TB N D) (hk : ∀ j, 50 ≤ j → ((j - 50) % 7 = 2 ∨ (j - 50) % 7 = 3) → E j = D j) : TB N E := fun i hi => by
  have := h i hi
  unfold tN at *
  rw [hk _ (by omega) (by omega), hk _ (by omega) (by omega)]
  exact this
theorem n01 : ¬ nI 0 = nI 1 := by decide +kernel
theorem AG.f3 {X Y : XX} (h : AG N P X.1 Y.1) (hs : SP N P X.1) (ht : TB N X.1) (e : Y.2 = X.2) : ∀ k, k ≤ N → AG N P (itr (fst3 wv N) k X).1 (itr (fst3 wv N) k Y).1 ∧ (itr (fst3 wv N) k Y).2 = (itr (fst3 wv N) k X).2 := by
  intro k
  induction k with
  | zero => intro _; exact ⟨h, e⟩
  | succ k ih =>
    intro hk
    obtain ⟨g1, g2⟩ := ih (by omega)
    have hkp : ∀ j, 50 ≤ j → ((j - 50) % 7 = 2 ∨ (j - 50) % 7 = 3) → (itr (fst3 wv N) k X).1 j = X.1 j := fun j h1 h2 => f3_keep (by omega) (by omega) (by omega) k
    have hs' : SP N P (itr (fst3 wv N) k X).1 := hs.st hkp (fun i hi c => by
      rcases f3_st (wv := wv) (N := N) (j := i) (X := X) k with z | z
      · rw [← z]; exact c
      · rw [z] at c; exact absurd c n01)
    have eo := g1.ovr_ hs' (ht.st hkp) (show k < N by omega)
    show AG N P (fst3 wv N k (itr (fst3 wv N) k X)).1 (fst3 wv N k (itr (fst3 wv N) k Y)).1 ∧ (fst3 wv N k (itr (fst3 wv N) k Y)).2 = (fst3 wv N k (itr (fst3 wv N) k X)).2
    by_cases c : ovr (itr (fst3 wv N) k X).1 k = true
    · have e1 : fst3 wv N k (itr (fst3 wv N) k X) = fl wv N 7 k (itr (fst3 wv N) k X) := if_pos c
      have e2 : fst3 wv N k (itr (fst3 wv N) k Y) = fl wv N 7 k (itr (fst3 wv N) k Y) := if_pos (by rw [eo]; exact c)
      rw [e1, e2]
      exact AG.fl_ 7 k _ _ (by omega) g1 g2
    · have e1 : fst3 wv N k (itr (fst3 wv N) k X) = itr (fst3 wv N) k X := if_neg c
      have e2 : fst3 wv N k (itr (fst3 wv N) k Y) = itr (fst3 wv N) k Y := if_neg (by rw [eo]; exact c)
      rw [e1, e2]
      exact ⟨g1, g2⟩
theorem AG.day (h : AG N P D E) (hs : SP N P D) (ht : TB N D) : AG N P (dayG wv N D).1 (dayG wv N E).1 ∧ (dayG wv N E).2 = (dayG wv N D).2 := by
  have hk : ∀ j, 50 ≤ j → ((j - 50) % 7 = 2 ∨ (j - 50) % 7 = 3) → dg2 D N j = D j := fun j h1 h2 => dg2_x (by omega)
  obtain ⟨g1, g2⟩ := AG.f3 (wv := wv) (X := (dg2 D N, [])) (Y := (dg2 E N, [])) h.g2 (hs.st hk (fun i hi c => by rw [← dg2_x (D := D) (k := N) (j := 50 + 7 * i + 6) (by omega)]; exact c)) (ht.st hk) rfl N (Nat.le_refl _)
  refine ⟨?_, g2⟩
  have e1 := g1.lo (show 1 < 6 by omega)
  show AG N P (upd (itr (fst3 wv N) N (dg2 D N, [])).1 1 ((itr (fst3 wv N) N (dg2 D N, [])).1 1 + nI 1)) (upd (itr (fst3 wv N) N (dg2 E N, [])).1 1 ((itr (fst3 wv N) N (dg2 E N, [])).1 1 + nI 1))
  rw [e1]
  exact g1.u
/-- the cold -/
theorem AG.clE_ {cv : Int32 → Int32 → Int32 → Int32} {p : Nat} (h : AG N P D E) (hp : p < 36) (hP : P p) : AG N P (clE cv p D) (clE cv p E) := by
  unfold clE
  rw [h (8 + p) (Or.inr (Or.inr ⟨by omega, by omega, by rw [show 8 + p - 8 = p by omega]; exact hP⟩)), h (44 + p / 6) (Or.inr (Or.inl (by omega))), h (44 + p % 6) (Or.inr (Or.inl (by omega))), h.lo (show 1 < 6 by omega)]
  exact h.u
theorem AG.cl {cv : Int32 → Int32 → Int32 → Int32} {ps : Nat → Nat} (h : AG N P D E) : ∀ k, (∀ i, i < k → ps i < 36 ∧ P (ps i)) → AG N P (clI cv ps D k) (clI cv ps E k) := by
  intro k
  induction k with
  | zero => intro _; exact h
  | succ k ih => intro hp; exact AG.clE_ (ih (fun i hi => hp i (by omega))) (hp k (by omega)).1 (hp k (by omega)).2
/-- the cold by rows of distinct pairs, each by itself -/
theorem clI_at {cv : Int32 → Int32 → Int32 → Int32} {ps : Nat → Nat} : ∀ k, (∀ i, i < k → ps i < 36) → (∀ i j, i < k → j < k → ps i = ps j → i = j) → ∀ j, clI cv ps D k j = if ∃ i, i < k ∧ j = 8 + ps i then hld (D j + cv (D j) (D (44 + (j - 8) / 6) + D (44 + (j - 8) % 6)) (irm (D 1) (nI 7))) (nI 0) (nI 99) else D j := by
  intro k
  induction k with
  | zero =>
    intro _ _ j
    rw [if_neg (fun ⟨i, hi, _⟩ => by omega)]
    rfl
  | succ k ih =>
    intro hp hd j
    have ih := ih (fun i hi => hp i (by omega)) (fun i j hi hj => hd i j (by omega) (by omega))
    show clE cv (ps k) (clI cv ps D k) j = _
    have hpk := hp k (by omega)
    unfold clE
    by_cases e : j = 8 + ps k
    · subst e
      rw [pk_us, if_pos ⟨k, by omega, rfl⟩]
      have e8 : clI cv ps D k (8 + ps k) = D (8 + ps k) := by
        rw [ih, if_neg]
        intro ⟨i, hi, z⟩
        exact absurd (hd i k (by omega) (by omega) (by omega)) (by omega)
      rw [e8, clI_x (by omega) k (fun i hi => hp i (by omega)), clI_x (by omega) k (fun i hi => hp i (by omega)), clI_x (by omega) k (fun i hi => hp i (by omega)), show 8 + ps k - 8 = ps k by omega]
    · rw [pk_un e, ih]
      by_cases c : ∃ i, i < k ∧ j = 8 + ps i
      · obtain ⟨i, hi, z⟩ := c
        rw [if_pos ⟨i, hi, z⟩, if_pos ⟨i, by omega, z⟩]
      · rw [if_neg c, if_neg]
        intro ⟨i, hi, z⟩
        by_cases ek : i = k
        · subst ek; exact e z
        · exact c ⟨i, by omega, z⟩
/-- the reference's cold against the class's -/
theorem AG.dc {cv : Int32 → Int32 → Int32 → Int32} {ps : Nat → Nat} {np : Nat} (h : AG N P D E) (hp : ∀ i, i < np → ps i < 36) (hd : ∀ i j, i < np → j < np → ps i = ps j → i = j) (hP : ∀ c, c < 36 → P c → (¬ c / 6 = c % 6 ↔ ∃ i, i < np ∧ c = ps i)) : AG N P (dc1 cv D 36) (clI cv ps E np) := by
  intro j hj
  rw [clI_at np hp hd j]
  by_cases h8 : 8 ≤ j ∧ j < 44
  · have hPj : P (j - 8) := by
      rcases hj with z | z | z
      · omega
      · omega
      · exact z.2.2
    have ej := h j hj
    have e1 := h.lo (show 1 < 6 by omega)
    have ea := h (44 + (j - 8) / 6) (Or.inr (Or.inl (by omega)))
    have eb := h (44 + (j - 8) % 6) (Or.inr (Or.inl (by omega)))
    have q := hP (j - 8) (by omega) hPj
    unfold dc1
    by_cases c : ¬ (j - 8) / 6 = (j - 8) % 6
    · obtain ⟨i, hi, z⟩ := q.mp c
      rw [if_pos ⟨i, hi, by omega⟩, if_pos ⟨by omega, by omega, by omega, c⟩, ej, e1, ea, eb]
    · rw [if_neg (fun ⟨i, hi, z⟩ => c (q.mpr ⟨i, hi, by omega⟩)), if_neg (fun z => c z.2.2.2)]
      exact ej
  · rw [if_neg (fun ⟨i, hi, z⟩ => by have := hp i hi; omega), dc1_x (by omega)]
    exact h j hj
end SIM
/-- thoughts from worlds that agree -/
theorem dsG_ag {cv wv : Int32 → Int32 → Int32 → Int32} {N : Nat} {ps : Nat → Nat} {np : Nat} {D E : Nat → Int32} (hp : ∀ i, i < np → ps i < 36) (h : AG N (fun _ => True) D E) (ht : TB N D) : ∀ k, AG N (fun _ => True) (dsG cv wv N ps np D k).1 (dsG cv wv N ps np E k).1 ∧ (dsG cv wv N ps np E k).2 = (dsG cv wv N ps np D k).2 := by
  intro k
  induction k with
  | zero => exact ⟨h, rfl⟩
  | succ k ih =>
    obtain ⟨g1, g2⟩ := ih
    have hc : AG N (fun _ => True) (clI cv ps (dsG cv wv N ps np D k).1 np) (clI cv ps (dsG cv wv N ps np E k).1 np) := AG.cl g1 np (fun i hi => ⟨hp i hi, trivial⟩)
    have ht' : TB N (clI cv ps (dsG cv wv N ps np D k).1 np) := ht.st (fun j h1 h2 => by rw [clI_x (by omega) np hp, dsG_tree hp (by omega) (by omega)])
    obtain ⟨q1, q2⟩ := AG.day (wv := wv) hc (fun _ _ _ => ⟨trivial, trivial⟩) ht'
    refine ⟨q1, ?_⟩
    rw [dsG_s, dsG_s]
    show _ ++ _ = _ ++ _
    rw [g2, q2]
theorem AG.stS_ {N : Nat} {P : Nat → Prop} {D E : Nat → Int32} {b : Bool} (h : AG N P D E) : stS E b N = stS D b N := stS_c N (fun i hi => h.tr hi (by omega))
theorem WB.tb5 {N : Nat} {D : Nat → Int32} (h : WB D) (hN : N ≤ 8) : TB N D := fun i hi => ⟨((h.k2 (show i < 8 by omega)).t (by decide)).2, ((h.k3 (show i < 8 by omega)).t (by decide)).2⟩
theorem AG.cp {N : Nat} {D E : Nat → Int32} (hN : N ≤ 8) : AG N (fun _ => True) E (cpW D E) := fun j hj => if_pos (by omega)
/-- the reference's days against a thought's -/
theorem sim_days {cv wv : Int32 → Int32 → Int32 → Int32} {N : Nat} {P : Nat → Prop} {ps : Nat → Nat} {np : Nat} {D E : Nat → Int32} (hN : N ≤ 8) (hp : ∀ i, i < np → ps i < 36) (hd : ∀ i j, i < np → j < np → ps i = ps j → i = j) (hP : ∀ c, c < 36 → P c → (¬ c / 6 = c % 6 ↔ ∃ i, i < np ∧ c = ps i)) (h : AG N P D E) (hs : SP N P D) (ht : TB N D) : ∀ k, AG N P (dsD cv wv N k D).1 (dsG cv wv N ps np E k).1 ∧ (dsG cv wv N ps np E k).2 = (dsD cv wv N k D).2 := by
  intro k
  induction k with
  | zero => exact ⟨h, rfl⟩
  | succ k ih =>
    obtain ⟨g1, g2⟩ := ih
    have hc : AG N P (dc1 cv (dsD cv wv N k D).1 36) (clI cv ps (dsG cv wv N ps np E k).1 np) := AG.dc g1 hp hd hP
    have hkeep : ∀ j, 50 ≤ j → ((j - 50) % 7 = 2 ∨ (j - 50) % 7 = 3) → dc1 cv (dsD cv wv N k D).1 36 j = D j := fun j h1 h2 => by
      rw [dc1_x (by omega)]
      clear hc g1 g2
      induction k with
      | zero => rfl
      | succ k ih2 =>
        rw [dsD_s]
        show (dayD cv wv N (dsD cv wv N k D).1).1 j = _
        rw [dayD_G, dayG_tree (by omega) (by omega), dc1_x (by omega)]
        exact ih2
    have hst : ∀ i, i < N → dc1 cv (dsD cv wv N k D).1 36 (50 + 7 * i + 6) = nI 1 → D (50 + 7 * i + 6) = nI 1 := fun i hi c => by
      rw [dc1_x (by omega)] at c
      clear hc g1 g2 hkeep
      induction k with
      | zero => exact c
      | succ k ih2 =>
        rw [dsD_s] at c
        rcases dayD_st (cv := cv) (wv := wv) (N := N) (D := (dsD cv wv N k D).1) (j := i) with z | z
        · exact ih2 (by rw [← z]; exact c)
        · exact absurd (z.symm.trans c) n01
    obtain ⟨q1, q2⟩ := AG.day (wv := wv) hc (hs.st hkeep hst) (ht.st hkeep)
    refine ⟨q1, ?_⟩
    rw [dsG_s, dsD_s]
    show _ ++ _ = _ ++ _
    rw [g2, q2]
    rfl
