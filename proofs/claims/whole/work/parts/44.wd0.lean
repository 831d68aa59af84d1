/-! ===== worlds: their bounds, and what the class does in them, pure ===== -/
def bnd (j : Nat) : Nat := if j = 0 then 8 else if j = 2 then 15 else if j = 3 then 999 else if j = 4 then 99999 else if j < 44 then 99 else if j < 50 then 9 else [6, 9, 5, 5, 15, 99, 1].getD ((j - 50) % 7) 0
def WB (D : Nat → Int32) : Prop := ∀ j, (j = 0 ∨ (2 ≤ j ∧ j ≤ 4) ∨ (8 ≤ j ∧ j < 106)) → NB D j (bnd j)
theorem NB.t {D : Nat → Int32} {j b : Nat} (h : NB D j b) (hb : b < 2 ^ 31) : D j = nI (tN D j) ∧ tN D j ≤ b := by
  obtain ⟨k, hk, e⟩ := h
  have e2 : tN D j = k := by unfold tN; rw [e]; exact icl (by omega)
  rw [e2]; exact ⟨e, hk⟩
theorem tN_of {D : Nat → Int32} {j k : Nat} (h : D j = nI k) (hk : k < 2 ^ 31) : tN D j = k := by unfold tN; rw [h]; exact icl hk
theorem bnd_h : ∀ c, c < 36 → bnd (8 + c) = 99 := by decide
theorem bnd_t : ∀ c, c < 6 → bnd (44 + c) = 9 := by decide
theorem bnd_r : ∀ i, i < 8 → bnd (50 + 7 * i + 0) = 6 ∧ bnd (50 + 7 * i + 1) = 9 ∧ bnd (50 + 7 * i + 2) = 5 ∧ bnd (50 + 7 * i + 3) = 5 ∧ bnd (50 + 7 * i + 4) = 15 ∧ bnd (50 + 7 * i + 5) = 99 ∧ bnd (50 + 7 * i + 6) = 1 := by decide
section WBS
variable {D : Nat → Int32} {i : Nat}
theorem WB.n (h : WB D) : NB D 0 8 := h 0 (by omega)
theorem WB.f (h : WB D) : NB D 2 15 := h 2 (by omega)
theorem WB.ha (h : WB D) : NB D 3 999 := h 3 (by omega)
theorem WB.wo (h : WB D) : NB D 4 99999 := h 4 (by omega)
theorem WB.h (h : WB D) (hi : i < 36) : NB D (8 + i) 99 := by have := h (8 + i) (by omega); rwa [bnd_h i hi] at this
theorem WB.t (h : WB D) (hi : i < 6) : NB D (44 + i) 9 := by have := h (44 + i) (by omega); rwa [bnd_t i hi] at this
theorem WB.k0 (h : WB D) (hi : i < 8) : NB D (50 + 7 * i + 0) 6 := by have := h (50 + 7 * i + 0) (by omega); rwa [(bnd_r i hi).1] at this
theorem WB.k1 (h : WB D) (hi : i < 8) : NB D (50 + 7 * i + 1) 9 := by have := h (50 + 7 * i + 1) (by omega); rwa [(bnd_r i hi).2.1] at this
theorem WB.k2 (h : WB D) (hi : i < 8) : NB D (50 + 7 * i + 2) 5 := by have := h (50 + 7 * i + 2) (by omega); rwa [(bnd_r i hi).2.2.1] at this
theorem WB.k3 (h : WB D) (hi : i < 8) : NB D (50 + 7 * i + 3) 5 := by have := h (50 + 7 * i + 3) (by omega); rwa [(bnd_r i hi).2.2.2.1] at this
theorem WB.k4 (h : WB D) (hi : i < 8) : NB D (50 + 7 * i + 4) 15 := by have := h (50 + 7 * i + 4) (by omega); rwa [(bnd_r i hi).2.2.2.2.1] at this
theorem WB.k5 (h : WB D) (hi : i < 8) : NB D (50 + 7 * i + 5) 99 := by have := h (50 + 7 * i + 5) (by omega); rwa [(bnd_r i hi).2.2.2.2.2.1] at this
theorem WB.k6 (h : WB D) (hi : i < 8) : NB D (50 + 7 * i + 6) 1 := by have := h (50 + 7 * i + 6) (by omega); rwa [(bnd_r i hi).2.2.2.2.2.2] at this
theorem WB.kd (h : WB D) (hi : i < 8) : tN D (50 + 7 * i + 0) ≤ 6 := ((h.k0 hi).t (by decide)).2
theorem WB.u {j : Nat} {x : Int32} (h : WB D) (hx : (j = 0 ∨ (2 ≤ j ∧ j ≤ 4) ∨ (8 ≤ j ∧ j < 106)) → ∃ k, k ≤ bnd j ∧ x = nI k) : WB (upd D j x) := by
  intro a ha
  unfold NB
  by_cases e : a = j
  · subst e; rw [pk_us]; exact hx ha
  · rw [pk_un e]; exact h a ha
theorem WB.uh {c : Nat} {x : Int32} (h : WB D) (hc : c < 36) (hx : ∃ k, k ≤ 99 ∧ x = nI k) : WB (upd D (8 + c) x) := h.u (fun _ => by rw [bnd_h c hc]; exact hx)
theorem WB.ut {c : Nat} {x : Int32} (h : WB D) (hc : c < 6) (hx : ∃ k, k ≤ 9 ∧ x = nI k) : WB (upd D (44 + c) x) := h.u (fun _ => by rw [bnd_t c hc]; exact hx)
theorem WB.u4 {x : Int32} (h : WB D) (hi : i < 8) (hx : ∃ k, k ≤ 15 ∧ x = nI k) : WB (upd D (50 + 7 * i + 4) x) := h.u (fun _ => by rw [(bnd_r i hi).2.2.2.2.1]; exact hx)
theorem WB.u5 {x : Int32} (h : WB D) (hi : i < 8) (hx : ∃ k, k ≤ 99 ∧ x = nI k) : WB (upd D (50 + 7 * i + 5) x) := h.u (fun _ => by rw [(bnd_r i hi).2.2.2.2.2.1]; exact hx)
theorem WB.u6 {x : Int32} (h : WB D) (hi : i < 8) (hx : ∃ k, k ≤ 1 ∧ x = nI k) : WB (upd D (50 + 7 * i + 6) x) := h.u (fun _ => by rw [(bnd_r i hi).2.2.2.2.2.2]; exact hx)
theorem WB.w1 {x : Int32} (h : WB D) : WB (upd D 1 x) := h.u (fun z => absurd z (by omega))
theorem WB.w5 {x : Int32} (h : WB D) : WB (upd D 5 x) := h.u (fun z => absurd z (by omega))
end WBS
theorem hld_nat {v : Int32} {b : Nat} (hb : b < 2 ^ 31) : ∃ k, k ≤ b ∧ hld v (nI 0) (nI b) = nI k := by
  obtain ⟨h1, h2⟩ := hld_rng (v := v) (lo := nI 0) (hi := nI b) ((nI_leI (by decide) hb).mpr (Nat.zero_le _))
  obtain ⟨k, hk, e⟩ := nI_of2 (nI_toInt hb) (Int32.not_lt.mpr (show (0 : Int32) ≤ _ from h1)) h2
  exact ⟨k, hk, e⟩
theorem mi_hld {a b : Nat} (ha : a < 2 ^ 31) : mi (nI a) (nI b) = hld (nI a) (nI 0) (nI b) := by
  unfold mi hld
  rw [if_neg (show ¬ nI a < nI 0 from nI_pos ha)]
/-! cooling -/
def clE (cv : Int32 → Int32 → Int32 → Int32) (p : Nat) (E : Nat → Int32) : Nat → Int32 := upd E (8 + p) (hld (E (8 + p) + cv (E (8 + p)) (E (44 + p / 6) + E (44 + p % 6)) (irm (E 1) (nI 7))) (nI 0) (nI 99))
def clI (cv : Int32 → Int32 → Int32 → Int32) (ps : Nat → Nat) (D : Nat → Int32) : Nat → Nat → Int32 := fun k => itr (fun i E => clE cv (ps i) E) k D
theorem clI_s {cv : Int32 → Int32 → Int32 → Int32} {ps : Nat → Nat} {D E : Nat → Int32} {k : Nat} {x y z : Int32} (hE : E = clI cv ps D k) (h1 : E (8 + ps k) = x) (h2 : E (44 + ps k / 6) + E (44 + ps k % 6) = y) (h3 : irm (E 1) (nI 7) = z) : upd E (8 + ps k) (hld (x + cv x y z) (nI 0) (nI 99)) = clI cv ps D (k + 1) := by
  show _ = clE cv (ps k) (clI cv ps D k)
  rw [← hE]
  unfold clE
  rw [h1, h2, h3]
theorem clI_x {cv : Int32 → Int32 → Int32 → Int32} {ps : Nat → Nat} {D : Nat → Int32} {j : Nat} (hj : j < 8 ∨ 44 ≤ j) : ∀ k, (∀ i, i < k → ps i < 36) → clI cv ps D k j = D j := by
  intro k
  induction k with
  | zero => intro _; rfl
  | succ k ih =>
    intro h
    show clE cv (ps k) (clI cv ps D k) j = D j
    unfold clE
    have := h k (by omega)
    rw [pk_un (by omega)]
    exact ih (fun i hi => h i (by omega))
theorem WB.cl {cv : Int32 → Int32 → Int32 → Int32} {ps : Nat → Nat} {D : Nat → Int32} (hD : WB D) : ∀ k, (∀ i, i < k → ps i < 36) → WB (clI cv ps D k) := by
  intro k
  induction k with
  | zero => intro _; exact hD
  | succ k ih => intro h; exact (ih (fun i hi => h i (by omega))).uh (h k (by omega)) (hld_nat (by decide))
/-! limits, growth, reach -/
theorem lmv_lim {D : Nat → Int32} {i dy : Nat} (h : WB D) (hi : i < 8) (hd : D 1 = nI dy) (hd9 : dy < 2 ^ 30) : lmv (tN D (50 + 7 * i + 0)) (D (50 + 7 * i + 1)) (D (50 + 7 * i + 5)) (D 1) = lim D i := by
  obtain ⟨e, hk⟩ := (h.k0 hi).t (by decide)
  unfold lim
  rw [e]
  generalize tN D (50 + 7 * i + 0) = k at hk ⊢
  have z0 : nI 0 + D (50 + 7 * i + 1) = D (50 + 7 * i + 1) := by rw [nI_0]; exact Int32.zero_add _
  rcases (show k = 0 ∨ k = 1 ∨ k = 2 ∨ k = 3 ∨ k = 4 ∨ k = 5 ∨ k = 6 by omega) with rfl | rfl | rfl | rfl | rfl | rfl | rfl
  · rfl
  · exact z0
  · rfl
  · rfl
  · show (if irm (D 1) (nI 2) = 0 then nI 0 + D (50 + 7 * i + 1) else nI 0) = (if irm (D 1) (nI 2) = nI 1 then nI 0 else D (50 + 7 * i + 1))
    have e2 : irm (D 1) (nI 2) = nI (dy % 2) := by rw [hd]; exact pk_rem (by omega) (by decide) (by decide)
    rw [e2, z0]
    rcases (show dy % 2 = 0 ∨ dy % 2 = 1 by omega) with z | z <;> rw [z] <;> rfl
  · rfl
  · rfl
theorem gwv_grw {D : Nat → Int32} {i : Nat} (h : WB D) (hi : i < 8) : gwv (tN D (50 + 7 * i + 0)) (D 1) = grw D i ∧ ∃ k, k ≤ 2 ∧ grw D i = nI k := by
  obtain ⟨e, hk⟩ := (h.k0 hi).t (by decide)
  unfold grw
  rw [e]
  generalize tN D (50 + 7 * i + 0) = k at hk ⊢
  have s : ∃ k, k ≤ 2 ∧ (if irm (D 1) (nI 3) = 0 then nI 1 else nI 0) = nI k := by
    split
    · exact ⟨1, by omega, rfl⟩
    · exact ⟨0, by omega, rfl⟩
  rcases (show k = 0 ∨ k = 1 ∨ k = 2 ∨ k = 3 ∨ k = 4 ∨ k = 5 ∨ k = 6 by omega) with rfl | rfl | rfl | rfl | rfl | rfl | rfl
  · exact ⟨rfl, 0, by omega, rfl⟩
  · exact ⟨rfl, s⟩
  · exact ⟨rfl, 0, by omega, rfl⟩
  · exact ⟨rfl, 1, by omega, rfl⟩
  · exact ⟨rfl, s⟩
  · exact ⟨rfl, 0, by omega, rfl⟩
  · exact ⟨rfl, 2, by omega, rfl⟩
def rcN (D : Nat → Int32) (i : Nat) : Nat := if tN D (50 + 7 * i + 0) = 5 then 0 else tN D (50 + 7 * i + 5) / 20
theorem rcv_rch {D : Nat → Int32} {i : Nat} (h : WB D) (hi : i < 8) : rcv (tN D (50 + 7 * i + 0)) (D (50 + 7 * i + 5)) = nI (rcN D i) ∧ rch D i = nI (rcN D i) ∧ rcN D i ≤ 4 := by
  obtain ⟨e, hk⟩ := (h.k0 hi).t (by decide)
  obtain ⟨e5, h5⟩ := (h.k5 hi).t (by decide)
  unfold rch rcN rcv
  rw [e, e5]
  rw [tN_of e5 (by omega)]
  generalize tN D (50 + 7 * i + 0) = k at hk ⊢
  generalize tN D (50 + 7 * i + 5) = g at h5 ⊢
  have d : nI g / nI 20 = nI (g / 20) := pk_div (by omega) (by decide) (by decide)
  by_cases h : k = 5
  · subst h; exact ⟨rfl, rfl, by rw [if_pos rfl]; omega⟩
  · rw [if_neg h, if_neg h, if_neg (fun z => h ((nI_eq (by omega) (by decide)).mp z))]
    exact ⟨d, d, by omega⟩
def plN (D : Nat → Int32) (i : Nat) : Nat := tN D (50 + 7 * i + 4)
def hgN (D : Nat → Int32) (i : Nat) : Nat := tN D (50 + 7 * i + 5)
theorem wi_sub : ∀ a, a < 16 → ∀ b, b < 16 → ∀ r, r < 5 → wi (nI a - nI b) (nI 1) (nI r) = (decide (b < a) && decide (a ≤ b + r)) := by decide +kernel
theorem cnd_N {D : Nat → Int32} {t k : Nat} (h : WB D) (ht : t < 8) (hk : k < 8) : cnd D t k = (decide (D (50 + 7 * k + 6) = nI 1) && (decide (plN D t < plN D k) && decide (plN D k ≤ plN D t + rcN D t)) && decide (hgN D k < hgN D t)) := by
  obtain ⟨e1, b1⟩ := (h.k4 hk).t (by decide)
  obtain ⟨e2, b2⟩ := (h.k4 ht).t (by decide)
  obtain ⟨e3, b3⟩ := (h.k5 hk).t (by decide)
  obtain ⟨e4, b4⟩ := (h.k5 ht).t (by decide)
  obtain ⟨-, e5, b5⟩ := rcv_rch h ht
  unfold cnd plN hgN
  rw [e5, e1, e2, e3, e4, wi_sub _ (by omega) _ (by omega) _ (by omega)]
  congr 1
  exact decide_eq_decide.mpr (nI_ltI (by omega) (by omega))
theorem gdn_N {wv : Int32 → Int32 → Int32 → Int32} {D : Nat → Int32} {i : Nat} (h : WB D) (hi : i < 8) (hw : ∀ a b c, ∃ k, k ≤ 99 ∧ wv a b c = nI k) : gdn wv D i = upd (upd (upd D 4 (mi (D 4 + wv (D (50 + 7 * i + 5)) (D (50 + 7 * i + 1)) (D (50 + 7 * i + 4))) (nI 99999))) 3 (if plN D i < tN D 2 ∧ tN D 2 ≤ plN D i + rcN D i then mi (D 3 + nI 1) (nI 999) else D 3)) (50 + 7 * i + 6) (nI 0) := by
  obtain ⟨e4, b4⟩ := h.wo.t (by decide)
  obtain ⟨e3, b3⟩ := h.ha.t (by decide)
  obtain ⟨e2, b2⟩ := h.f.t (by decide)
  obtain ⟨ep, bp⟩ := (h.k4 hi).t (by decide)
  obtain ⟨-, er, br⟩ := rcv_rch h hi
  obtain ⟨g, hg, eg⟩ := hw (D (50 + 7 * i + 5)) (D (50 + 7 * i + 1)) (D (50 + 7 * i + 4))
  unfold gdn
  have a1 : hld (D 4 + wv (D (50 + 7 * i + 5)) (D (50 + 7 * i + 1)) (D (50 + 7 * i + 4))) (nI 0) (nI 99999) = mi (D 4 + wv (D (50 + 7 * i + 5)) (D (50 + 7 * i + 1)) (D (50 + 7 * i + 4))) (nI 99999) := by rw [eg, e4, nI_add, mi_hld (by omega)]
  have a2 : hld (D 3 + (if wi (D 2 - D (50 + 7 * i + 4)) (nI 1) (rch D i) = true then nI 1 else nI 0)) (nI 0) (nI 999) = (if plN D i < tN D 2 ∧ tN D 2 ≤ plN D i + rcN D i then mi (D 3 + nI 1) (nI 999) else D 3) := by
    rw [er, e2, ep, wi_sub _ (by omega) _ (by omega) _ (by omega), tN_of e2 (by omega), e3]
    unfold plN
    by_cases c : tN D (50 + 7 * i + 4) < tN D 2 ∧ tN D 2 ≤ tN D (50 + 7 * i + 4) + rcN D i
    · rw [if_pos c, decide_eq_true c.1, decide_eq_true c.2, Bool.and_self, if_pos rfl, nI_add, mi_hld (by omega)]
    · rw [if_neg c, if_neg (fun z => c (by simpa only [Bool.and_eq_true, decide_eq_true_eq] using z)), nI_add]
      unfold hld
      rw [Nat.add_zero, if_neg (show ¬ nI (tN D 3) < nI 0 from nI_pos (by omega)), if_neg (nI_nlt (by omega) (by decide))]
  rw [a1, a2]
theorem WB.gd {wv : Int32 → Int32 → Int32 → Int32} {D : Nat → Int32} {i : Nat} (h : WB D) (hi : i < 8) : WB (gdn wv D i) := by
  unfold gdn
  refine WB.u6 (WB.u (WB.u h (fun _ => ?_)) (fun _ => ?_)) hi ⟨0, by omega, rfl⟩
  · exact hld_nat (by decide)
  · exact hld_nat (by decide)
theorem WB.fl {wv : Int32 → Int32 → Int32 → Int32} {N : Nat} (hN : N ≤ 8) : ∀ (f t : Nat) (x : XX), t < N → WB x.1 → WB (fl wv N f t x).1 := by
  intro f
  induction f with
  | zero => intro t x ht h; exact h.gd (by omega)
  | succ f ih =>
    intro t x ht h
    have go : ∀ (m k : Nat) (y : XX), k + m ≤ N → WB y.1 → WB (itf (gst wv N f t) m k y).1 := by
      intro m
      induction m with
      | zero => intro k y _ hy; exact hy
      | succ m ihm =>
        intro k y hkm hy
        refine ihm (k + 1) _ (by omega) ?_
        unfold gst
        split
        · exact ih k y (by omega) hy
        · exact hy
    exact go N 0 (gdn wv x.1 t, x.2 ++ [t]) (by omega) (h.gd (by omega))
theorem WB.g2 {D : Nat → Int32} {N : Nat} (h : WB D) (hN : N ≤ 8) : WB (dg2 D N) := by
  intro j hj
  unfold NB
  by_cases hc : 50 ≤ j ∧ (j - 50) / 7 < N ∧ (j - 50) % 7 = 5 ∧ D (50 + 7 * ((j - 50) / 7) + 6) = nI 1
  · have ed : dg2 D N j = hld (D j + grw D ((j - 50) / 7)) (nI 0) (nI 99) := if_pos hc
    rw [ed]
    have e : j = 50 + 7 * ((j - 50) / 7) + 5 := by omega
    have e2 := (bnd_r ((j - 50) / 7) (by omega)).2.2.2.2.2.1
    rw [← e] at e2
    rw [e2]
    exact hld_nat (by decide)
  · have ed : dg2 D N j = D j := if_neg hc
    rw [ed]; exact h j hj
/-- a day behind the cold -/
def dayG (wv : Int32 → Int32 → Int32 → Int32) (N : Nat) (D : Nat → Int32) : XX := (upd (itr (fst3 wv N) N (dg2 D N, [])).1 1 ((itr (fst3 wv N) N (dg2 D N, [])).1 1 + nI 1), (itr (fst3 wv N) N (dg2 D N, [])).2)
theorem dayD_G {cv wv : Int32 → Int32 → Int32 → Int32} {N : Nat} {D : Nat → Int32} : dayD cv wv N D = dayG wv N (dc1 cv D 36) := rfl
theorem WB.f3 {wv : Int32 → Int32 → Int32 → Int32} {N : Nat} (hN : N ≤ 8) {X : XX} (h : WB X.1) : ∀ k, k ≤ N → WB (itr (fst3 wv N) k X).1 := by
  intro k
  induction k with
  | zero => intro _; exact h
  | succ k ih =>
    intro hk
    show WB (fst3 wv N k (itr (fst3 wv N) k X)).1
    unfold fst3
    split
    · exact WB.fl hN 7 k _ (by omega) (ih (by omega))
    · exact ih (by omega)
theorem WB.dg {wv : Int32 → Int32 → Int32 → Int32} {N : Nat} (hN : N ≤ 8) {D : Nat → Int32} (h : WB D) : WB (dayG wv N D).1 := (WB.f3 (X := (dg2 D N, [])) hN (h.g2 hN) N (Nat.le_refl _)).w1
