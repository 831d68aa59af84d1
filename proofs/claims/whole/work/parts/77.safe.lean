/-! ===== harm by the fence ===== -/
def cH (E : Nat → Int32) (p : Nat) : List Nat → Nat
  | [] => 0
  | t :: L => (if hitb E t p = true then 1 else 0) + cH E p L
theorem cH_app {E : Nat → Int32} {p : Nat} : ∀ a b : List Nat, cH E p (a ++ b) = cH E p a + cH E p b := by
  intro a
  induction a with
  | nil => intro b; exact (Nat.zero_add _).symm
  | cons t a ih =>
    intro b
    show (if hitb E t p = true then 1 else 0) + cH E p (a ++ b) = (if hitb E t p = true then 1 else 0) + cH E p a + cH E p b
    rw [ih]; omega
theorem cH_le {E : Nat → Int32} {p : Nat} : ∀ a : List Nat, cH E p a ≤ a.length := by
  intro a
  induction a with
  | nil => exact Nat.le_refl _
  | cons t a ih =>
    show (if hitb E t p = true then 1 else 0) + cH E p a ≤ a.length + 1
    split <;> omega
theorem cH_c {D E : Nat → Int32} {p : Nat} (h : ∀ t, hitb E t p = hitb D t p) : ∀ a : List Nat, cH E p a = cH D p a := by
  intro a
  induction a with
  | nil => rfl
  | cons t a ih =>
    show (if hitb E t p = true then 1 else 0) + cH E p a = (if hitb D t p = true then 1 else 0) + cH D p a
    rw [h, ih]
theorem hts_cH {E : Nat → Int32} {p : Nat} : ∀ (L : List Nat) (f : Nat → Int32), hts E L f p = f p + nI (cH E p L) := by
  intro L
  induction L with
  | nil =>
    intro f
    show f p = f p + nI 0
    rw [nI_0, Int32.add_zero]
  | cons t L ih =>
    intro f
    show hts E L (hitF E t f) p = f p + nI ((if hitb E t p = true then 1 else 0) + cH E p L)
    rw [ih]
    unfold hitF
    by_cases c : hitb E t p = true
    · rw [if_pos c, if_pos c, Int32.add_assoc, nI_add]
    · rw [if_neg c, if_neg c, Nat.zero_add]
def NX (x y : Nat → Int32) : Prop := ∀ j, j ≠ 2 → j ≠ 3 → y j = x j
section NXS
variable {wv cv : Int32 → Int32 → Int32 → Int32} {N : Nat}
theorem NX.rch_ {x y : Nat → Int32} {i : Nat} (h : NX x y) : rch y i = rch x i := by unfold rch; rw [h _ (by omega) (by omega), h _ (by omega) (by omega)]
theorem NX.cnd_ {x y : Nat → Int32} {t k : Nat} (h : NX x y) : cnd y t k = cnd x t k := by
  unfold cnd
  rw [h.rch_, h _ (by omega) (by omega), h _ (by omega) (by omega), h _ (by omega) (by omega), h _ (by omega) (by omega), h _ (by omega) (by omega)]
theorem NX.lim_ {x y : Nat → Int32} {i : Nat} (h : NX x y) : lim y i = lim x i := by
  unfold lim
  rw [h _ (by omega) (by omega), h _ (by omega) (by omega), h _ (by omega) (by omega), h _ (by omega) (by omega)]
theorem NX.grw_ {x y : Nat → Int32} {i : Nat} (h : NX x y) : grw y i = grw x i := by
  unfold grw
  rw [h _ (by omega) (by omega), h 1 (by omega) (by omega)]
theorem NX.ovr_ {x y : Nat → Int32} {i : Nat} (h : NX x y) : ovr y i = ovr x i := by
  unfold ovr tN
  rw [h.lim_, h (50 + 7 * i + 6) (by omega) (by omega), h (50 + 7 * i + 2) (by omega) (by omega), h (50 + 7 * i + 3) (by omega) (by omega), h _ (by omega) (by omega), h _ (by omega) (by omega)]
theorem NX.u {x y : Nat → Int32} {a : Nat} {v w : Int32} (h : NX x y) (e : a = 3 ∨ v = w) : NX (upd x a v) (upd y a w) := fun j h2 h3 => by
  by_cases c : j = a
  · subst c; rw [pk_us, pk_us]; rcases e with e | e
    · exact absurd e h3
    · exact e.symm
  · rw [pk_un c, pk_un c]; exact h j h2 h3
theorem NX.gd {x y : Nat → Int32} {i : Nat} (h : NX x y) : NX (gdn wv x i) (gdn wv y i) := by
  unfold gdn
  refine ((h.u (Or.inr ?_)).u (Or.inl rfl)).u (Or.inr rfl)
  rw [h 4 (by omega) (by omega), h _ (by omega) (by omega), h _ (by omega) (by omega), h _ (by omega) (by omega)]
theorem NX.g2 {x y : Nat → Int32} (h : NX x y) : NX (dg2 x N) (dg2 y N) := fun j h2 h3 => by
  unfold dg2
  rw [h j h2 h3, h.grw_, h (50 + 7 * ((j - 50) / 7) + 6) (by omega) (by omega)]
theorem NX.cl {x y : Nat → Int32} {ps : Nat → Nat} (h : NX x y) : ∀ k, NX (clI cv ps x k) (clI cv ps y k) := by
  intro k
  induction k with
  | zero => exact h
  | succ k ih =>
    show NX (clE cv (ps k) (clI cv ps x k)) (clE cv (ps k) (clI cv ps y k))
    unfold clE
    refine ih.u (Or.inr ?_)
    rw [ih _ (by omega) (by omega), ih _ (by omega) (by omega), ih _ (by omega) (by omega), ih 1 (by omega) (by omega)]
/-- both runs amid a day -/
def SX (p H : Nat) (E0 : Nat → Int32) (x y : XX) : Prop := NX x.1 y.1 ∧ y.2 = x.2 ∧ y.1 2 = nI p ∧ WB y.1 ∧ (∀ j, j ≠ 3 → j ≠ 4 → (j < 50 ∨ ¬ (j - 50) % 7 = 6) → y.1 j = E0 j) ∧ y.1 3 = nI (min (H + cH E0 p y.2) 999)
theorem mi_1 {a : Nat} (h : a ≤ 999) : mi (nI a + nI 1) (nI 999) = nI (min (a + 1) 999) := by
  rw [nI_add]
  unfold mi
  by_cases c : 999 < a + 1
  · rw [if_pos ((nI_ltI (by omega) (by omega)).mpr c), Nat.min_eq_right (by omega)]
  · rw [if_neg (fun z => c ((nI_ltI (by omega) (by omega)).mp z)), Nat.min_eq_left (by omega)]
theorem SX.gd {p H t : Nat} {E0 : Nat → Int32} {x y : XX} (hp : p < 16) (hw : ∀ a b c, ∃ k, k ≤ 99 ∧ wv a b c = nI k) (ht : t < 8) (h : SX p H E0 x y) : SX p H E0 (gdn wv x.1 t, x.2 ++ [t]) (gdn wv y.1 t, y.2 ++ [t]) := by
  obtain ⟨h1, h2, h3, h4, h5, h6⟩ := h
  refine ⟨h1.gd, by show y.2 ++ [t] = x.2 ++ [t]; rw [h2], ?_, h4.gd ht, fun j a b c => ?_, ?_⟩
  · show gdn wv y.1 t 2 = nI p
    rw [gdn_keep (by omega) (by omega) (by omega)]; exact h3
  · show gdn wv y.1 t j = E0 j
    rw [gdn_keep a b c]; exact h5 j a b c
  · show gdn wv y.1 t 3 = nI (min (H + cH E0 p (y.2 ++ [t])) 999)
    rw [gdn_N h4 ht hw, pk_un (by omega), pk_us, cH_app]
    have e2 : tN y.1 2 = p := by unfold tN; rw [h3, icl (by omega)]
    have eb : hitb E0 t p = decide (plN y.1 t < p ∧ p ≤ plN y.1 t + rcN y.1 t) := by
      rw [← hitb_c h5]
      unfold hitb
      rw [decide_eq_true hp, Bool.and_true, ← Bool.decide_and]
    rw [e2, h6]
    show _ = nI (min (H + (cH E0 p y.2 + ((if hitb E0 t p = true then 1 else 0) + 0))) 999)
    rw [eb]
    by_cases c : plN y.1 t < p ∧ p ≤ plN y.1 t + rcN y.1 t
    · rw [if_pos c, if_pos (decide_eq_true c), mi_1 (by omega)]
      congr 1
      omega
    · rw [if_neg c, if_neg (by simpa using c)]
      congr 1
theorem SX.fl_ {p H : Nat} {E0 : Nat → Int32} (hN : N ≤ 8) (hp : p < 16) (hw : ∀ a b c, ∃ k, k ≤ 99 ∧ wv a b c = nI k) : ∀ (f t : Nat) (x y : XX), t < N → SX p H E0 x y → SX p H E0 (fl wv N f t x) (fl wv N f t y) := by
  intro f
  induction f with
  | zero =>
    intro t x y ht h
    exact SX.gd hp hw (by omega) h
  | succ f ih =>
    intro t x y ht h
    have go : ∀ (m k : Nat) (x y : XX), k + m ≤ N → SX p H E0 x y → SX p H E0 (itf (gst wv N f t) m k x) (itf (gst wv N f t) m k y) := by
      intro m
      induction m with
      | zero => intro k x y _ h; exact h
      | succ m ihm =>
        intro k x y hk h
        show SX p H E0 (itf (gst wv N f t) m (k + 1) (gst wv N f t k x)) (itf (gst wv N f t) m (k + 1) (gst wv N f t k y))
        have ec := h.1.cnd_ (t := t) (k := k)
        by_cases c : cnd x.1 t k = true
        · have e1 : gst wv N f t k x = fl wv N f k x := if_pos c
          have e2 : gst wv N f t k y = fl wv N f k y := if_pos (by rw [ec]; exact c)
          rw [e1, e2]
          exact ihm (k + 1) _ _ (by omega) (ih k x y (by omega) h)
        · have e1 : gst wv N f t k x = x := if_neg c
          have e2 : gst wv N f t k y = y := if_neg (by rw [ec]; exact c)
          rw [e1, e2]
          exact ihm (k + 1) x y (by omega) h
    exact go N 0 (gdn wv x.1 t, x.2 ++ [t]) (gdn wv y.1 t, y.2 ++ [t]) (by omega) (SX.gd hp hw (by omega) h)
theorem SX.f3 {p H : Nat} {E0 : Nat → Int32} (hN : N ≤ 8) (hp : p < 16) (hw : ∀ a b c, ∃ k, k ≤ 99 ∧ wv a b c = nI k) {X Y : XX} (h : SX p H E0 X Y) : ∀ k, k ≤ N → SX p H E0 (itr (fst3 wv N) k X) (itr (fst3 wv N) k Y) := by
  intro k
  induction k with
  | zero => intro _; exact h
  | succ k ih =>
    intro hk
    have g := ih (by omega)
    show SX p H E0 (fst3 wv N k (itr (fst3 wv N) k X)) (fst3 wv N k (itr (fst3 wv N) k Y))
    have eo := g.1.ovr_ (i := k)
    by_cases c : ovr (itr (fst3 wv N) k X).1 k = true
    · have e1 : fst3 wv N k (itr (fst3 wv N) k X) = fl wv N 7 k (itr (fst3 wv N) k X) := if_pos c
      have e2 : fst3 wv N k (itr (fst3 wv N) k Y) = fl wv N 7 k (itr (fst3 wv N) k Y) := if_pos (by rw [eo]; exact c)
      rw [e1, e2]
      exact SX.fl_ hN hp hw 7 k _ _ (by omega) g
    · have e1 : fst3 wv N k (itr (fst3 wv N) k X) = itr (fst3 wv N) k X := if_neg c
      have e2 : fst3 wv N k (itr (fst3 wv N) k Y) = itr (fst3 wv N) k Y := if_neg (by rw [eo]; exact c)
      rw [e1, e2]
      exact g
/-- a day -/
theorem NX.day {p H : Nat} (hN : N ≤ 8) (hp : p < 16) (hw : ∀ a b c, ∃ k, k ≤ 99 ∧ wv a b c = nI k) {x y : Nat → Int32} (h : NX x y) (h2 : y 2 = nI p) (hB : WB y) (hH : H ≤ 999) (h3 : y 3 = nI H) : NX (dayG wv N x).1 (dayG wv N y).1 ∧ (dayG wv N y).2 = (dayG wv N x).2 ∧ (dayG wv N y).1 2 = nI p ∧ WB (dayG wv N y).1 ∧ (dayG wv N y).1 3 = nI (min (H + cH (dayG wv N x).1 p (dayG wv N x).2) 999) := by
  have s : SX p H (dg2 y N) (dg2 x N, []) (dg2 y N, []) := by
    refine ⟨h.g2, rfl, ?_, hB.g2 hN, fun _ _ _ _ => rfl, ?_⟩
    · show dg2 y N 2 = _
      rw [dg2_x (by omega)]; exact h2
    · show dg2 y N 3 = nI (min (H + 0) 999)
      rw [dg2_x (by omega), h3, Nat.add_zero, Nat.min_eq_left hH]
  obtain ⟨g1, g2, g3, g4, g5, g6⟩ := SX.f3 hN hp hw s N (Nat.le_refl _)
  have eL : (dayG wv N y).2 = (dayG wv N x).2 := g2
  refine ⟨fun j a b => ?_, eL, ?_, WB.dg hN hB, ?_⟩
  · by_cases c : j = 1
    · subst c; rw [dayG_1, dayG_1, h 1 (by omega) (by omega)]
    · rw [dayG_n c, dayG_n c]; exact g1 j a b
  · rw [dayG_n (by omega)]; exact g3
  · rw [dayG_n (by omega), g6]
    have ec : cH (dg2 y N) p (itr (fst3 wv N) N (dg2 y N, [])).2 = cH (dayG wv N x).1 p (dayG wv N x).2 := by
      rw [show (itr (fst3 wv N) N (dg2 y N, [])).2 = (dayG wv N x).2 from g2]
      refine cH_c (fun t => ?_) _
      have ee : ∀ j, j ≠ 1 → j ≠ 2 → j ≠ 3 → j ≠ 4 → (j < 50 ∨ ¬ (j - 50) % 7 = 6) → dg2 y N j = (dayG wv N x).1 j := fun j a b c d e => by
        rw [dayG_n a, ← g1 j b c]
        exact (g5 j c d e).symm
      exact hitb_d (ee _ (by omega) (by omega) (by omega) (by omega) (by omega)) (ee _ (by omega) (by omega) (by omega) (by omega) (by omega)) (ee _ (by omega) (by omega) (by omega) (by omega) (by omega))
    rw [ec]
/-- days -/
theorem NX.days {p H : Nat} {ps : Nat → Nat} {np : Nat} (hN : N ≤ 8) (hp : p < 16) (hw : ∀ a b c, ∃ k, k ≤ 99 ∧ wv a b c = nI k) (hps : ∀ i, i < np → ps i < 36) {F : Nat → Int32} (hB : WB F) (hH : H ≤ 999) (h3 : F 3 = nI H) : ∀ k, NX (dsG cv wv N ps np F k).1 (dsG cv wv N ps np (upd F 2 (nI p)) k).1 ∧ (dsG cv wv N ps np (upd F 2 (nI p)) k).1 2 = nI p ∧ WB (dsG cv wv N ps np (upd F 2 (nI p)) k).1 ∧ ∃ c, c ≤ (dsG cv wv N ps np F k).2.length ∧ dsH cv wv N ps np F (fun _ => nI 0) k p = nI c ∧ (dsG cv wv N ps np (upd F 2 (nI p)) k).1 3 = nI (min (H + c) 999) := by
  intro k
  induction k with
  | zero =>
    rw [dsG_0, dsG_0]
    refine ⟨fun j a b => pk_un a, (by show upd F 2 (nI p) 2 = _; exact pk_us), hB.u (fun _ => ⟨p, by show p ≤ 15; omega, rfl⟩), 0, Nat.zero_le _, rfl, ?_⟩
    show upd F 2 (nI p) 3 = _
    rw [pk_un (by omega), h3, Nat.add_zero, Nat.min_eq_left hH]
  | succ k ih =>
    obtain ⟨i1, i2, i3, c, i4, i5, i6⟩ := ih
    have d := NX.day (wv := wv) (H := min (H + c) 999) hN hp hw (i1.cl (cv := cv) (ps := ps) np) (by rw [clI_x (by omega) np hps]; exact i2) (i3.cl np hps) (by omega) (by rw [clI_x (by omega) np hps]; exact i6)
    rw [dsG_s, dsG_s]
    refine ⟨d.1, d.2.2.1, d.2.2.2.1, c + cH (dayG wv N (clI cv ps (dsG cv wv N ps np F k).1 np)).1 p (dayG wv N (clI cv ps (dsG cv wv N ps np F k).1 np)).2, ?_, ?_, ?_⟩
    · show _ ≤ ((dsG cv wv N ps np F k).2 ++ (dayG wv N (clI cv ps (dsG cv wv N ps np F k).1 np)).2).length
      rw [List.length_append]
      exact Nat.add_le_add i4 (cH_le _)
    · show hts (dsG cv wv N ps np F (k + 1)).1 (dayG wv N (clI cv ps (dsG cv wv N ps np F k).1 np)).2 (dsH cv wv N ps np F (fun _ => nI 0) k) p = _
      rw [hts_cH, i5, nI_add, dsG_s]
    · show (dayG wv N (clI cv ps (dsG cv wv N ps np (upd F 2 (nI p)) k).1 np)).1 3 = _
      rw [d.2.2.2.2]
      congr 1
      omega
end NXS
/-! the best fence, upwards and downwards -/
theorem sfB_z {cv wv : Int32 → Int32 → Int32 → Int32} {N : Nat} {D : Nat → Int32} {k n : Nat} : sfB cv wv N D k (n + 1) = if (dsD cv wv N k (upd D 2 (nI n))).1 3 ≤ (sfB cv wv N D k n).2 then (nI n, (dsD cv wv N k (upd D 2 (nI n))).1 3) else sfB cv wv N D k n := rfl
theorem sfB_0 {cv wv : Int32 → Int32 → Int32 → Int32} {N : Nat} {D : Nat → Int32} {k : Nat} : sfB cv wv N D k 0 = (nI 0, nI 1000) := rfl
theorem sdB_z {g : Nat → Int32} {n : Nat} : sdB g (n + 1) = if g (15 - n) < (sdB g n).2 then (nI (15 - n), g (15 - n)) else sdB g n := rfl
theorem sdB_0 {g : Nat → Int32} : sdB g 0 = (nI 15, nI 999) := rfl
theorem sfB_p {cv wv : Int32 → Int32 → Int32 → Int32} {N : Nat} {D : Nat → Int32} {k : Nat} {h : Nat → Nat} (hh : ∀ p, p < 16 → (dsD cv wv N k (upd D 2 (nI p))).1 3 = nI (h p) ∧ h p ≤ 999) : ∀ n, n < 16 → ∃ p, p ≤ n ∧ sfB cv wv N D k (n + 1) = (nI p, nI (h p)) ∧ ∀ u, u ≤ n → h p ≤ h u ∧ (h u = h p → u ≤ p) := by
  intro n
  induction n with
  | zero =>
    intro _
    refine ⟨0, Nat.le_refl _, ?_, fun u hu => ⟨by rw [Nat.le_zero.mp hu]; exact Nat.le_refl _, fun _ => hu⟩⟩
    rw [sfB_z, sfB_0, (hh 0 (by omega)).1, if_pos (nI_le (by have := (hh 0 (by omega)).2; omega) (by decide))]
  | succ n ih =>
    intro hn
    obtain ⟨p, h1, h2, h3⟩ := ih (by omega)
    have b1 := (hh (n + 1) hn).2
    have b2 := (hh p (by omega)).2
    rw [sfB_z, h2, (hh (n + 1) hn).1]
    by_cases c : h (n + 1) ≤ h p
    · rw [if_pos (nI_le c (by omega))]
      refine ⟨n + 1, Nat.le_refl _, rfl, fun u hu => ?_⟩
      by_cases e : u = n + 1
      · subst e; exact ⟨Nat.le_refl _, fun _ => Nat.le_refl _⟩
      · have := h3 u (by omega)
        exact ⟨by omega, fun _ => by omega⟩
    · rw [if_neg (fun z => c ((nI_leI (by omega) (by omega)).mp z))]
      refine ⟨p, by omega, rfl, fun u hu => ?_⟩
      by_cases e : u = n + 1
      · subst e; exact ⟨by omega, fun z => by omega⟩
      · exact h3 u (by omega)
theorem sdB_p {g : Nat → Int32} {h : Nat → Nat} (hh : ∀ p, p < 16 → g p = nI (h p) ∧ h p ≤ 999) : ∀ n, n ≤ 16 → ∃ p m, p ≤ 15 ∧ m ≤ 999 ∧ sdB g n = (nI p, nI m) ∧ (∀ u, u ≤ 15 → 16 - n ≤ u → m ≤ h u ∧ (h u = m → u ≤ p)) ∧ ((p = 15 ∧ m = 999) ∨ (16 - n ≤ p ∧ m = h p)) := by
  intro n
  induction n with
  | zero => intro _; exact ⟨15, 999, by omega, by omega, sdB_0, fun u h1 h2 => by omega, Or.inl ⟨rfl, rfl⟩⟩
  | succ n ih =>
    intro hn
    obtain ⟨p, m, h1, h2, h3, h4, h5⟩ := ih (by omega)
    have b := hh (15 - n) (by omega)
    rw [sdB_z, h3, b.1]
    by_cases c : h (15 - n) < m
    · rw [if_pos ((nI_ltI (by omega) (by omega)).mpr c)]
      refine ⟨15 - n, h (15 - n), by omega, b.2, rfl, fun u a1 a2 => ?_, Or.inr ⟨by omega, rfl⟩⟩
      by_cases e : u = 15 - n
      · subst e; exact ⟨Nat.le_refl _, fun _ => Nat.le_refl _⟩
      · have := h4 u a1 (by omega)
        exact ⟨by omega, fun z => by omega⟩
    · rw [if_neg (fun z => c ((nI_ltI (by omega) (by omega)).mp z))]
      refine ⟨p, m, h1, h2, rfl, fun u a1 a2 => ?_, ?_⟩
      · by_cases e : u = 15 - n
        · subst e
          refine ⟨by omega, fun z => ?_⟩
          rcases h5 with q | q <;> omega
        · exact h4 u a1 (by omega)
      · rcases h5 with q | q
        · exact Or.inl q
        · exact Or.inr ⟨by omega, q.2⟩
theorem sf_sd {cv wv : Int32 → Int32 → Int32 → Int32} {N : Nat} {D : Nat → Int32} {k : Nat} {g : Nat → Int32} {h : Nat → Nat} (h1 : ∀ p, p < 16 → (dsD cv wv N k (upd D 2 (nI p))).1 3 = nI (h p) ∧ h p ≤ 999) (h2 : ∀ p, p < 16 → g p = nI (h p) ∧ h p ≤ 999) : (sfB cv wv N D k 16).1 = (sdB g 16).1 := by
  obtain ⟨p, p1, p2, p3⟩ := sfB_p h1 15 (by omega)
  obtain ⟨r, m, r1, r2, r3, r4, r5⟩ := sdB_p h2 16 (Nat.le_refl _)
  have e : sfB cv wv N D k 16 = (nI p, nI (h p)) := p2
  rw [e, r3]
  have a := r4 p p1 (by omega)
  have b := p3 r r1
  have er : p = r := by
    rcases r5 with q | q
    · have c := (h1 p (by omega)).2
      have c' := (h1 r (by omega)).2
      omega
    · omega
  rw [er]
