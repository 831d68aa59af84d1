theorem WB.dc {cv : Int32 → Int32 → Int32 → Int32} {D : Nat → Int32} (h : WB D) : WB (dc1 cv D 36) := fun j hj => by
  show ∃ k, k ≤ bnd j ∧ (if 8 ≤ j ∧ j < 8 + 36 ∧ j < 44 ∧ ¬ (j - 8) / 6 = (j - 8) % 6 then hld (D j + cv (D j) (D (44 + (j - 8) / 6) + D (44 + (j - 8) % 6)) (irm (D 1) (nI 7))) (nI 0) (nI 99) else D j) = nI k
  by_cases c : 8 ≤ j ∧ j < 8 + 36 ∧ j < 44 ∧ ¬ (j - 8) / 6 = (j - 8) % 6
  · rw [if_pos c]
    have := bnd_h (j - 8) (by omega)
    rw [show 8 + (j - 8) = j by omega] at this
    rw [this]
    exact hld_nat (by decide)
  · rw [if_neg c]; exact h j hj
theorem WB.dd {cv wv : Int32 → Int32 → Int32 → Int32} {N : Nat} {D : Nat → Int32} (hN : N ≤ 8) (h : WB D) : ∀ k, WB (dsD cv wv N k D).1 := by
  intro k
  induction k with
  | zero => exact h
  | succ k ih =>
    rw [dsD_s]
    show WB (dayD cv wv N (dsD cv wv N k D).1).1
    rw [dayD_G]
    exact WB.dg hN ih.dc
theorem dayD_1 {cv wv : Int32 → Int32 → Int32 → Int32} {N : Nat} {D : Nat → Int32} : (dayD cv wv N D).1 1 = D 1 + nI 1 := by
  rw [dayD_G, dayG_1, dc1_x (by omega)]
theorem dsD_1 {cv wv : Int32 → Int32 → Int32 → Int32} {N : Nat} {D : Nat → Int32} : ∀ k, (dsD cv wv N k D).1 1 = D 1 + nI k := by
  intro k
  induction k with
  | zero =>
    show D 1 = _
    rw [nI_0, Int32.add_zero]
  | succ k ih =>
    rw [dsD_s]
    show (dayD cv wv N (dsD cv wv N k D).1).1 1 = _
    rw [dayD_1, ih, ← nI_add, Int32.add_assoc]
/-- one hold, day after day -/
theorem dsD_th {cv wv : Int32 → Int32 → Int32 → Int32} {N dy a b : Nat} {D : Nat → Int32} (hN : N ≤ 8) (ha : a ≤ 5) (hb : b ≤ 5) (hab : a ≠ b) (ed : D 1 = nI dy) (hdy : dy ≤ 9999) : ∀ k, k ≤ 60 → (dsD cv wv N k D).1 (8 + 6 * a + b) = thI cv (D (44 + a) + D (44 + b)) dy (D (8 + 6 * a + b)) k := by
  intro k
  induction k with
  | zero => intro _; rfl
  | succ k ih =>
    intro hk
    have e := ih (by omega)
    rw [dsD_s]
    show (dayD cv wv N (dsD cv wv N k D).1).1 (8 + 6 * a + b) = hld (thI cv (D (44 + a) + D (44 + b)) dy (D (8 + 6 * a + b)) k + cv (thI cv (D (44 + a) + D (44 + b)) dy (D (8 + 6 * a + b)) k) (D (44 + a) + D (44 + b)) (nI ((dy + k) % 7))) (nI 0) (nI 99)
    rw [dayD_G, dayG_n (by omega), f3_k (by omega) (by omega) (by omega), dg2_x (by omega)]
    unfold dc1
    have h6 : (8 + 6 * a + b - 8) / 6 = a := by omega
    have h7 : (8 + 6 * a + b - 8) % 6 = b := by omega
    rw [h6, h7, if_pos ⟨by omega, by omega, by omega, hab⟩, e, dsD_x hN (by unfold kpt; omega), dsD_x hN (by unfold kpt; omega), dsD_1, ed, nI_add, show irm (nI (dy + k)) (nI 7) = nI ((dy + k) % 7) from pk_rem (by omega) (by decide) (by decide)]
theorem AG.dr {N : Nat} {D E : Nat → Int32} (h : AT N D E) : AT N (drD D) (drD E) := by
  unfold drD
  rw [h.lo (show 5 < 6 by omega)]
  exact h.u.u
theorem drD_y {D : Nat → Int32} {j : Nat} (h : j ≠ 5) (h2 : j < 44 ∨ 50 ≤ j) : drD D j = D j := by
  unfold drD
  rw [pk_un (by omega), pk_un h]
theorem dsD_0 {cv wv : Int32 → Int32 → Int32 → Int32} {N : Nat} {D : Nat → Int32} : dsD cv wv N 0 D = (D, []) := rfl
theorem dsG_0 {cv wv : Int32 → Int32 → Int32 → Int32} {N : Nat} {ps : Nat → Nat} {np : Nat} {D : Nat → Int32} : dsG cv wv N ps np D 0 = (D, []) := rfl
theorem WB.ld {cv wv : Int32 → Int32 → Int32 → Int32} {N : Nat} {D : Nat → Int32} (hN : N ≤ 8) (h : WB D) : ∀ k, WB (lsD cv wv N k D).1 ∧ (lsD cv wv N k D).1 1 = D 1 + nI k ∧ ∀ j, j = 0 ∨ j = 6 ∨ j = 7 ∨ 106 ≤ j → (lsD cv wv N k D).1 j = D j := by
  intro k
  induction k with
  | zero =>
    refine ⟨h, ?_, fun j _ => rfl⟩
    show D 1 = _
    rw [nI_0, Int32.add_zero]
  | succ k ih =>
    obtain ⟨i1, i2, i3⟩ := ih
    refine ⟨?_, ?_, fun j hj => ?_⟩
    · show WB (dayD cv wv N (drD (lsD cv wv N k D).1)).1
      rw [dayD_G]
      exact WB.dg hN i1.dr.dc
    · show (dayD cv wv N (drD (lsD cv wv N k D).1)).1 1 = _
      rw [dayD_1, drD_y (by omega) (by omega), i2, ← nI_add, Int32.add_assoc]
    · show (dayD cv wv N (drD (lsD cv wv N k D).1)).1 j = _
      rw [dayD_x hN (by unfold kpt; omega), drD_y (by omega) (by omega)]
      exact i3 j hj
theorem sim_ls {cv wv : Int32 → Int32 → Int32 → Int32} {N : Nat} {D E : Nat → Int32} (hN : N ≤ 8) (hB : WB D) (hE : WB E) (h : AT N D E) : ∀ k, AT N (lsD cv wv N k D).1 (lsG cv wv N ps0 30 E k).1 ∧ (lsG cv wv N ps0 30 E k).2 = (lsD cv wv N k D).2 ∧ WB (lsG cv wv N ps0 30 E k).1 ∧ ∀ j, 50 ≤ j → (j - 50) % 7 = 2 ∨ (j - 50) % 7 = 3 → (lsG cv wv N ps0 30 E k).1 j = E j := by
  intro k
  induction k with
  | zero => exact ⟨h, rfl, hE, fun _ _ _ => rfl⟩
  | succ k ih =>
    obtain ⟨i1, i2, i3, i4⟩ := ih
    have s := sim_days (cv := cv) (wv := wv) (P := fun _ => True) hN ps0_lt (fun i j hi hj e => ps0_inj i hi j hj e) (fun c hc _ => ps0_all c hc) i1.dr (fun _ _ _ => ⟨trivial, trivial⟩) ((WB.ld hN hB k).1.dr.tb5 hN) (0 + 1)
    rw [dsD_s, dsG_s, dsD_0, dsG_0] at s
    rw [lsD_s, lsG_s]
    dsimp only at s ⊢
    rw [List.nil_append, List.nil_append] at s
    refine ⟨s.1, ?_, ?_, fun j hj hj2 => ?_⟩
    · rw [i2, s.2]
    · exact WB.dg hN (i3.dr.cl 30 ps0_lt)
    · rw [dayG_tree (by omega) (by omega), clI_x (by omega) 30 ps0_lt, drD_y (by omega) (by omega)]
      exact i4 j hj hj2
theorem cpl_t : ∀ N, N < 8 → ∀ k, k < 256 → k < 2 ^ N → ((nI 1 <<< (nI (N + 1) &&& 31)) - nI 1) &&& ((nI k ||| (nI 1 <<< (nI N &&& 31))) ^^^ -1) = ((nI 1 <<< (nI N &&& 31)) - nI 1) &&& (nI k ^^^ -1) := by decide +kernel
theorem cpl_f : ∀ N, N < 8 → ∀ k, k < 256 → k < 2 ^ N → ((nI 1 <<< (nI (N + 1) &&& 31)) - nI 1) &&& (nI k ^^^ -1) = (((nI 1 <<< (nI N &&& 31)) - nI 1) &&& (nI k ^^^ -1)) ||| (nI 1 <<< (nI N &&& 31)) := by decide +kernel
theorem cpl {D : Nat → Int32} : ∀ N, N ≤ 8 → (∀ i, i < N → NB D (50 + 7 * i + 6) 1) → ((nI 1 <<< (nI N &&& 31)) - nI 1) &&& (stS D true N ^^^ -1) = stS D false N := by
  intro N
  induction N with
  | zero => intro _ _; show _ &&& (nI 0 ^^^ -1) = nI 0; decide +kernel
  | succ N ih =>
    intro hN h
    have e := ih (by omega) (fun i hi => h i (by omega))
    obtain ⟨k, hk, ek⟩ := stS_nat (D := D) (b := true) N (by omega)
    have hk2 : k < 256 := Nat.lt_of_lt_of_le hk (by
      have : 2 ^ N ≤ 2 ^ 8 := Nat.pow_le_pow_right (by decide) (by omega)
      omega)
    obtain ⟨c, hc, ec⟩ := h N (by omega)
    rcases (show c = 0 ∨ c = 1 by omega) with rfl | rfl
    · rw [← stS_f (b := true) (by rw [ec]; decide), ← stS_t (b := false) (by rw [ec]; rfl), ← e, ek]
      exact cpl_f N (by omega) k hk2 hk
    · rw [← stS_t (b := true) (by rw [ec]; rfl), ← stS_f (b := false) (by rw [ec]; decide), ← e, ek]
      exact cpl_t N (by omega) k hk2 hk
section TIE2
variable {m : Nat} {R W Z R' W' Z' : Nat → Nat → Int32} {T T' : Nat → Nat → Nat} {kn kn' : Kn} {n n' : Nat} {D D' : Nat → Int32} {A A' : Nat → Nat → Int32} {S S' : Nat → Int32} {N dy tp wt : Nat} {Wc0 : Nat → Nat} {len0 : Nat} {V0 : Nat → Nat} {l0 : Nat} {Wc1 : Nat → Nat} {len1 : Nat} {V1 : Nat → Nat} {l1 : Nat}
theorem RelP.dz {m' dy' f1 : Nat} (h : RelP m R W Z T kn n D A S N dy tp wt Wc0 len0 V0 l0 Wc1 len1 V1 l1) (hF : FR 0 R Z W R' Z' W') (hB : WB (W' 0)) (hBd : WB D') (hA : AT N D' (W' 0)) (hDF : DF N (W' 0)) (h1 : D' 1 = nI dy') (hd : dy' ≤ 9999) (hk : ∀ j, j = 0 ∨ j = 6 ∨ j = 7 ∨ 106 ≤ j → D' j = D j) (hT : TI T' kn' n') (hK : KO (cvc Wc0 len0) kn') (hA' : ∀ j, j ≠ 4 → j ≠ 6 → j ≠ 7 → j ≠ 8 → j ≠ 9 → A' j = A j) (hf : f1 ≤ m') : RelP m' R' W' Z' T' kn' n' D' A' (uS S 18 (nI f1)) N dy' tp wt Wc0 len0 V0 l0 Wc1 len1 V1 l1 := by
  obtain ⟨⟨⟨s1, s2, s3, s4, s5, s6, s7, s8⟩, ⟨p1, p2, p3, p4⟩, ⟨w1, w2, w3, w4⟩, q0, q1⟩, g1, g2, g3, g4, g5, g6, g7, g8, g9, g10⟩ := h
  obtain ⟨r, z, w⟩ := hF
  have e0 : wb 0 = 15 := rfl
  have r' : ∀ a, a < 8 ∨ (8 < a ∧ a < 14) ∨ 21 < a → R' a = R a := fun a ha => r a (by omega) (by omega) (by omega) (by omega)
  have z' : ∀ b j, b ≠ 19 → Z' b j = Z b j := fun b j hb => z b j (by omega)
  have a' : ∀ j, j < 4 ∨ 9 < j → A' j = A j := fun j hj => hA' j (by omega) (by omega) (by omega) (by omega) (by omega)
  refine ⟨⟨⟨s1, by rw [hk 0 (by omega)]; exact s2, h1, hd, hB, hBd, hA, hDF⟩, ⟨p1, by rw [z' _ _ (by omega)]; exact p2, by rw [hk 6 (by omega)]; exact p3, fun j hj => by rw [r' 2 (by omega), hk _ (by omega)]; exact p4 j hj⟩, ⟨w1, by rw [z' _ _ (by omega)]; exact w2, by rw [hk 7 (by omega)]; exact w3, fun j hj => by rw [r' 50 (by omega), hk _ (by omega)]; exact w4 j hj⟩, ?_, ?_⟩, ?_, ?_, hK, hT, g5.c (r' 23 (by omega)) (z' 22 1 (by omega)), g6.c (r' 52 (by omega)) (z' 51 1 (by omega)) (a' 10 (by omega)) (uS_n (by decide)), g7.c (fun i hi => r' _ (by omega)) (fun i k hi => z' _ _ (by omega)) (a' 11 (by omega)) (a' 12 (by omega)) (a' 13 (by omega)), g8.c (r' 54 (by omega)) (a' 3 (by omega)), g9.c (w 2 (by decide)) (a' 1 (by omega)) (uS_n (by decide)) (z' 0 14 (by omega)) (fun b hb => z' b 1 (by omega)) (fun a ha => r' a (by omega)), f1, uS_s, hf⟩
  · rw [z' 4 1 (by omega), r' 5 (by omega)]; exact q0.d (fun j hj => hk j (by omega))
  · rw [z' 10 1 (by omega), r' 11 (by omega)]; exact q1.d (fun j hj => hk j (by omega))
  · rw [w 1 (by decide)]; exact g1
  · rw [w 2 (by decide)]; exact g2
end TIE2
