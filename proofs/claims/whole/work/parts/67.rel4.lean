section REL4
variable {m : Nat} {R W Z R' W' Z' : Nat → Nat → Int32} {T T' : Nat → Nat → Nat} {kn kn' : Kn} {n n' : Nat} {D D' : Nat → Int32} {A A' : Nat → Nat → Int32} {S S' : Nat → Int32} {N dy tp wt : Nat} {Wc0 : Nat → Nat} {len0 : Nat} {V0 : Nat → Nat} {l0 : Nat} {Wc1 : Nat → Nat} {len1 : Nat} {V1 : Nat → Nat} {l1 : Nat}
/-- another tape, other waiting numbers, other texts -/
theorem RelP.e {N' dy' tp' wt' : Nat} {Wc0' : Nat → Nat} {len0' : Nat} {V0' : Nat → Nat} {l0' : Nat} {Wc1' : Nat → Nat} {len1' : Nat} {V1' : Nat → Nat} {l1' : Nat} (h : RelP m R W Z T kn n D A S N dy tp wt Wc0 len0 V0 l0 Wc1 len1 V1 l1) (hS : SN (W' 0) D' (Z' 1 1) (R' 2) (Z' 49 1) (R' 50) (Z' 4 1) (R' 5) (Z' 10 1) (R' 11) N' dy' tp' wt' Wc0' len0' V0' l0' Wc1' len1' V1' l1') (hB1 : WB (W' 1)) (hB2 : W' 2 = W 2) (hK : KO (cvc Wc0' len0') kn') (hT : TI T' kn' n') (r : ∀ a, a = 23 ∨ a = 52 ∨ a = 54 ∨ 72 ≤ a → R' a = R a) (z : ∀ b j, b = 0 ∨ b = 22 ∨ b = 51 ∨ 72 ≤ b → Z' b j = Z b j) (hA : ∀ j, j = 1 ∨ j = 3 ∨ (10 ≤ j ∧ j < 14) → A' j = A j) (s : ∀ j, j = 3 ∨ j = 18 ∨ j = 20 → S' j = S j) : RelP m R' W' Z' T' kn' n' D' A' S' N' dy' tp' wt' Wc0' len0' V0' l0' Wc1' len1' V1' l1' := by
  obtain ⟨h1, g1, g2, g3, g4, g5, g6, g7, g8, g9, fm, g10, g11⟩ := h
  refine ⟨hS, hB1, by rw [hB2]; exact g2, hK, hT, g5.c (r 23 (by omega)) (z 22 1 (by omega)), g6.c (r 52 (by omega)) (z 51 1 (by omega)) (hA 10 (by omega)) (s 20 (by omega)), g7.c (fun i hi => r _ (by omega)) (fun i k hi => z _ _ (by omega)) (hA 11 (by omega)) (hA 12 (by omega)) (hA 13 (by omega)), g8.c (r 54 (by omega)) (hA 3 (by omega)), g9.c hB2 (hA 1 (by omega)) (s 3 (by omega)) (z 0 14 (by omega)) (fun b hb => z b 1 (by omega)) (fun a ha => r a (by omega)), fm, by rw [s 18 (by omega)]; exact g10, g11⟩
/-- other sheets -/
theorem RelP.sh (h : RelP m R W Z T kn n D A S N dy tp wt Wc0 len0 V0 l0 Wc1 len1 V1 l1) (r : ∀ a, a < 80 → R' a = R a) (z : ∀ b j, b < 80 → Z' b j = Z b j) (hA : ∀ j, j < 11 → A' j = A j) (hH : SHR R' Z' A') : RelP m R' W Z' T kn n D A' S N dy tp wt Wc0 len0 V0 l0 Wc1 len1 V1 l1 := by
  obtain ⟨h1, g1, g2, g3, g4, g5, g6, g7, g8, g9, fm, g10, g11⟩ := h
  refine ⟨?_, g1, g2, g3, g4, g5.c (r 23 (by omega)) (z 22 1 (by omega)), g6.c (r 52 (by omega)) (z 51 1 (by omega)) (hA 10 (by omega)) rfl, hH, g8.c (r 54 (by omega)) (hA 3 (by omega)), g9.c rfl (hA 1 (by omega)) rfl (z 0 14 (by omega)) (fun b hb => z b 1 (by omega)) (fun a ha => r a (by omega)), fm, g10, g11⟩
  rw [z 1 1 (by omega), r 2 (by omega), z 49 1 (by omega), r 50 (by omega), z 4 1 (by omega), r 5 (by omega), z 10 1 (by omega), r 11 (by omega)]; exact h1
theorem SHR.sz (h : SHR R Z A) : ∀ i, i < 4 → ∃ k, k ≤ 40 ∧ Z (80 + 2 * i) 1 = nI k := fun i hi => by
  obtain ⟨-, ⟨sz, q1, q2, q3⟩, -⟩ := h i hi
  exact ⟨sz, q1, q2⟩
theorem SHR.sA (h : SHR R Z A) : ∀ i, i < 4 → NB (A 12) i 40 := fun i hi => by
  obtain ⟨-, ⟨sz, q1, q2, q3⟩, -⟩ := h i hi
  exact ⟨sz, q1, q3⟩
theorem SHR.b (h : SHR R Z A) {i : Nat} (hi : i ≤ 3) : Z (80 + 2 * i) 2 = A 11 i := (h i (by omega)).1
theorem SHR.d (h : SHR R Z A) {i j : Nat} (hi : i ≤ 3) (hj : j < 40) : R (80 + 2 * i + 1) j = A 13 (40 * i + j) := (h i (by omega)).2.2 j hj
theorem SHR.s (h : SHR R Z A) {i s t : Nat} (hi : i ≤ 3) (h1 : Z (80 + 2 * i) 1 = nI s) (h2 : A 12 i = nI t) (hs : s ≤ 40) (ht : t ≤ 40) : s = t := by
  obtain ⟨-, ⟨sz, q1, q2, q3⟩, -⟩ := h i (by omega)
  have e1 := (nI_eq (by omega) (by omega)).mp (h1.symm.trans q2)
  have e2 := (nI_eq (by omega) (by omega)).mp (h2.symm.trans q3)
  omega
end REL4
theorem sgc_in {f g : Nat → Int32} {b k t : Nat} (h : b ≤ t ∧ t < b + k) : sgc f g b k t = g (t - b) := if_pos h
theorem sgc_out {f g : Nat → Int32} {b k t : Nat} (h : ¬ (b ≤ t ∧ t < b + k)) : sgc f g b k t = f t := if_neg h
theorem tkD_at {D g : Nat → Int32} : ∀ k j, tkD D g k j = if 44 ≤ j ∧ j < 44 + k then g (j - 44) else D j := by
  intro k
  induction k with
  | zero => intro j; rw [if_neg (by omega)]; rfl
  | succ k ih =>
    intro j
    show upd (tkD D g k) (44 + k) (g k) j = _
    by_cases e : j = 44 + k
    · subst e
      rw [pk_us, if_pos (by omega), show 44 + k - 44 = k by omega]
    · rw [pk_un e, ih j]
      by_cases h : 44 ≤ j ∧ j < 44 + k
      · rw [if_pos h, if_pos (by omega)]
      · rw [if_neg h, if_neg (by omega)]
theorem fdR_at {w : Int64} {t : Nat} {f : Nat → Int32} : ∀ k j, fdR w t f k j = if t ≤ j ∧ j < t + k then fdb w (j - t) else f j := by
  intro k
  induction k with
  | zero => intro j; rw [if_neg (by omega)]; rfl
  | succ k ih =>
    intro j
    show upd (fdR w t f k) (t + k) (fdb w k) j = _
    by_cases e : j = t + k
    · subst e
      rw [pk_us, if_pos (by omega), show t + k - t = k by omega]
    · rw [pk_un e, ih j]
      by_cases h : t ≤ j ∧ j < t + k
      · rw [if_pos h, if_pos (by omega)]
      · rw [if_neg h, if_neg (by omega)]
theorem fdD_at {w : Int64} {t : Nat} {D : Nat → Int32} : ∀ k j, fdD w t D k j = if j = 6 then nI (t + k) else if 228 + t ≤ j ∧ j < 228 + t + k then fdb w (j - (228 + t)) else D j := by
  intro k
  induction k with
  | zero =>
    intro j
    show upd D 6 (nI t) j = _
    by_cases e : j = 6
    · subst e; rw [pk_us, if_pos rfl]; rfl
    · rw [pk_un e, if_neg e, if_neg (by omega)]
  | succ k ih =>
    intro j
    show upd (upd (fdD w t D k) (228 + (t + k)) (fdb w k)) 6 (nI (t + k + 1)) j = _
    by_cases e : j = 6
    · subst e; rw [pk_us, if_pos rfl]; rfl
    · rw [pk_un e, if_neg e]
      by_cases e2 : j = 228 + (t + k)
      · subst e2
        rw [pk_us, if_pos (by omega), show 228 + (t + k) - (228 + t) = k by omega]
      · rw [pk_un e2, ih j, if_neg e]
        by_cases h : 228 + t ≤ j ∧ j < 228 + t + k
        · rw [if_pos h, if_pos (by omega)]
        · rw [if_neg h, if_neg (by omega)]
theorem TQ.d {u : Nat} {z : Int32} {r D D' : Nat → Int32} {Wc : Nat → Nat} {len : Nat} {V : Nat → Nat} {vl : Nat} (h : TQ u z r D Wc len V vl) (k : ∀ j, j = 106 + u ∨ (128 + 50 * u ≤ j ∧ j < 178 + 50 * u) → D' j = D j) : TQ u z r D' Wc len V vl := by
  obtain ⟨a1, a2, a3, ⟨c1, c2, c3, c4⟩, a5⟩ := h
  exact ⟨a1, a2, a3, ⟨by rw [k _ (by omega)]; exact c1, fun i hi => by rw [k _ (by omega)]; exact c2 i hi, c3, c4⟩, a5⟩
theorem SN.d {E D D' : Nat → Int32} {tz tz' : Int32} {tr tr' : Nat → Int32} {wz wz' : Int32} {wr wr' : Nat → Int32} {z0 z0' : Int32} {r0 r0' : Nat → Int32} {z1 z1' : Int32} {r1 r1' : Nat → Int32} {N dy tp wt tp' wt' : Nat} {Wc0 : Nat → Nat} {len0 : Nat} {V0 : Nat → Nat} {l0 : Nat} {Wc1 : Nat → Nat} {len1 : Nat} {V1 : Nat → Nat} {l1 : Nat} {Wc0' : Nat → Nat} {len0' : Nat} {V0' : Nat → Nat} {l0' : Nat} {Wc1' : Nat → Nat} {len1' : Nat} {V1' : Nat → Nat} {l1' : Nat} (h : SN E D tz tr wz wr z0 r0 z1 r1 N dy tp wt Wc0 len0 V0 l0 Wc1 len1 V1 l1) (k : ∀ j, j < 6 ∨ (8 ≤ j ∧ j < 106) → D' j = D j) (ht : tp' ≤ 50 ∧ tz' = nI tp' ∧ D' 6 = nI tp' ∧ ∀ j, j < tp' → tr' j = D' (228 + j) ∧ ∃ c, c < 256 ∧ tr' j = nI c) (hw : wt' ≤ 20 ∧ wz' = nI wt' ∧ D' 7 = nI wt' ∧ ∀ j, j < wt' → wr' j = D' (108 + j)) (h0 : TQ 0 z0' r0' D' Wc0' len0' V0' l0') (h1 : TQ 1 z1' r1' D' Wc1' len1' V1' l1') : SN E D' tz' tr' wz' wr' z0' r0' z1' r1' N dy tp' wt' Wc0' len0' V0' l0' Wc1' len1' V1' l1' := by
  obtain ⟨⟨a1, a2, a3, a4, a5, a6, a7, a8⟩, -⟩ := h
  refine ⟨⟨a1, by rw [k 0 (by omega)]; exact a2, by rw [k 1 (by omega)]; exact a3, a4, a5, fun j hj => ?_, fun j hj => ?_, a8⟩, ht, hw, h0, h1⟩
  · obtain ⟨c, c1, c2⟩ := a6 j hj
    exact ⟨c, c1, by rw [k j (by omega)]; exact c2⟩
  · rw [k j (by omega)]; exact a7 j hj
theorem fst_uniq {p : Nat → Prop} {s N a b : Nat} (ha1 : a ≤ s) (ha2 : a ≤ N) (ha : ∀ u, u < a → p u) (ha3 : a = s ∨ a = N ∨ (a < s ∧ a < N ∧ ¬ p a)) (hb1 : b ≤ s) (hb2 : b ≤ N) (hb : ∀ u, u < b → p u) (hb3 : b = s ∨ b = N ∨ (b < s ∧ b < N ∧ ¬ p b)) : a = b := by
  by_cases h : a < b
  · have := hb a h
    rcases ha3 with e | e | e
    · omega
    · omega
    · exact absurd this e.2.2
  · by_cases h2 : b < a
    · have := ha b h2
      rcases hb3 with e | e | e
      · omega
      · omega
      · exact absurd this e.2.2
    · omega
