section REL2
variable {m : Nat} {R W Z : Nat → Nat → Int32} {T : Nat → Nat → Nat} {kn : Kn} {n : Nat} {D : Nat → Int32} {A : Nat → Nat → Int32} {S : Nat → Int32} {N dy tp wt : Nat} {Wc0 : Nat → Nat} {len0 : Nat} {V0 : Nat → Nat} {l0 : Nat} {Wc1 : Nat → Nat} {len1 : Nat} {V1 : Nat → Nat} {l1 : Nat}
theorem JN.of {l : Launch} {M2 : MD} {d2 n' : Nat} {vs : List Value} {v : Int32} (hT : TI T kn n') (h : ∀ Q2 : QT, (∀ (v' : Int32) (R1 W1 Z1 : Nat → Nat → Int32) (T1 : Nat → Nat → Nat) (kn1 : Kn) (D1 : Nat → Int32) (A1 : Nat → Nat → Int32) (S1 : Nat → Int32), v' = v → Rel (m + 40000) R1 W1 Z1 T1 kn1 n' D1 A1 S1 → Q2 (some (.int v')) n' (mo 88 D1 A1 S1 (co R1 W1 Z1 T1 kn1 hN))) → Ct l M2 d2 0 0 vs n' (mo 88 D A S (co R W Z T kn hN)) Q2) : JN m l M2 d2 vs (some (.int v)) n' (co R W Z T kn (mo 88 D A S hN)) := by
  refine ⟨⟨_, rfl⟩, ⟨mfl 88 S, by rw [cmo hT]; exact mo_o⟩, fun Q2 q => ?_⟩
  rw [cmo hT]
  refine h Q2 (fun v' R1 W1 Z1 T1 kn1 D1 A1 S1 ev hR => ?_)
  have g := q R1 W1 Z1 T1 kn1 D1 A1 S1 hR
  obtain ⟨_, _, _, _, _, _, _, _, _, _, _, _, _, _, _, _, hT1, _⟩ := hR
  rw [cmo hT1] at g
  rw [ev]
  exact g
/-- another world, the class's and the reference's -/
theorem RelP.w {E' D' : Nat → Int32} {N' dy' : Nat} (h : RelP m R W Z T kn n D A S N dy tp wt Wc0 len0 V0 l0 Wc1 len1 V1 l1) (h0 : N' ≤ 8 ∧ D' 0 = nI N' ∧ D' 1 = nI dy' ∧ dy' ≤ 9999) (hB : WB E') (hBd : WB D') (hA : AT N' D' E') (hF : DF N' E') (hk : ∀ j, j = 6 ∨ j = 7 ∨ 106 ≤ j → D' j = D j) : RelP m R (uW W 0 E') Z T kn n D' A S N' dy' tp wt Wc0 len0 V0 l0 Wc1 len1 V1 l1 := by
  obtain ⟨⟨h1, ⟨p1, p2, p3, p4⟩, ⟨w1, w2, w3, w4⟩, ⟨a1, a2, a3, a4, a5⟩, ⟨b1, b2, b3, b4, b5⟩⟩, g1, g2, g3, g4, g5, g6, g7, g8, g9, g10⟩ := h
  refine ⟨⟨?_, ⟨p1, p2, by rw [hk 6 (by omega)]; exact p3, fun j hj => by rw [hk _ (by omega)]; exact p4 j hj⟩, ⟨w1, w2, by rw [hk 7 (by omega)]; exact w3, fun j hj => by rw [hk _ (by omega)]; exact w4 j hj⟩, ⟨a1, a2, a3, a4.same (fun j hj => hk j (by omega)), a5⟩, ⟨b1, b2, b3, b4.same (fun j hj => hk j (by omega)), b5⟩⟩, ?_, ?_, g3, g4, g5, g6, g7, g8, ?_, g10⟩
  · rw [uW_s]; exact ⟨h0.1, h0.2.1, h0.2.2.1, h0.2.2.2, hB, hBd, hA, hF⟩
  · rw [uW_n (by decide)]; exact g1
  · rw [uW_n (by decide)]; exact g2
  · unfold IMR; rw [uW_n (by decide)]; exact g9
theorem RelP.r (h : RelP m R W Z T kn n D A S N dy tp wt Wc0 len0 V0 l0 Wc1 len1 V1 l1) : Rel m R W Z T kn n D A S := ⟨N, dy, tp, wt, Wc0, len0, V0, l0, Wc1, len1, V1, l1, h⟩
theorem DF.k {E E' : Nat → Int32} (h : DF N E) (hk : ∀ i, i < N → E' (50 + 7 * i + 2) = E (50 + 7 * i + 2) ∧ E' (50 + 7 * i + 3) = E (50 + 7 * i + 3)) : DF N E' := fun i hi => by
  unfold tN
  rw [(hk i hi).1, (hk i hi).2]
  exact h i hi
/-- one number of the world -/
theorem RelP.u {j : Nat} {x : Int32} (h : RelP m R W Z T kn n D A S N dy tp wt Wc0 len0 V0 l0 Wc1 len1 V1 l1) (hj : (2 ≤ j ∧ j < 6) ∨ (8 ≤ j ∧ j < 50) ∨ (50 ≤ j ∧ j < 106 ∧ ¬ (j - 50) % 7 = 2 ∧ ¬ (j - 50) % 7 = 3)) (hx : j = 5 ∨ ∃ k, k ≤ bnd j ∧ x = nI k) : RelP m R (uW W 0 (upd (W 0) j x)) Z T kn n (upd D j x) A S N dy tp wt Wc0 len0 V0 l0 Wc1 len1 V1 l1 := by
  obtain ⟨h1, h2, h3, h4, h5, h6, h7, h8⟩ := h.1.1
  refine h.w ⟨h1, by rw [pk_un (by omega)]; exact h2, by rw [pk_un (by omega)]; exact h3, h4⟩ (h5.u (fun z => hx.resolve_left (by omega))) (h6.u (fun z => hx.resolve_left (by omega))) h7.u (h8.k (fun i hi => ⟨pk_un (by omega), pk_un (by omega)⟩)) (fun a ha => pk_un (by clear hx; omega))
theorem RelP.ci (h : RelP m R W Z T kn n D A S N dy tp wt Wc0 len0 V0 l0 Wc1 len1 V1 l1) : CI R W Z T kn n N dy Wc0 len0 Wc1 len1 := by
  obtain ⟨⟨⟨h1, h2, h3, h4, h5, h6, h7, h8⟩, -, -, ⟨a1, a2, a3, a4, a5⟩, ⟨b1, b2, b3, b4, b5⟩⟩, g1, g2, g3, g4, g5, g6, g7, g8, g9, g10⟩ := h
  exact ⟨h1, (h7.lo (by omega)).trans h2, (h7.lo (by omega)).trans h3, h4, h5, g1, ⟨a1, a2, a3⟩, ⟨b1, b2, b3⟩, g4, g3⟩
theorem RelP.dw (h : RelP m R W Z T kn n D A S N dy tp wt Wc0 len0 V0 l0 Wc1 len1 V1 l1) : DW D N V0 l0 V1 l1 := by
  obtain ⟨⟨⟨h1, h2, h3, h4, h5, h6, h7, h8⟩, -, -, ⟨a1, a2, a3, a4, a5⟩, ⟨b1, b2, b3, b4, b5⟩⟩, -⟩ := h
  exact ⟨h2, fun t ht => ⟨h6.k0 (by omega), h6.k2 (by omega), h6.k3 (by omega)⟩, a4, b4, fun t ht => h6.k6 ht⟩
theorem RelP.cv (h : RelP m R W Z T kn n D A S N dy tp wt Wc0 len0 V0 l0 Wc1 len1 V1 l1) : cvc Wc0 len0 = tgv 0 V0 l0 := by
  funext a b c
  exact h.1.2.2.2.1.2.2.2.2 a b c
theorem RelP.wv (h : RelP m R W Z T kn n D A S N dy tp wt Wc0 len0 V0 l0 Wc1 len1 V1 l1) : wvc Wc1 len1 = tgv 1 V1 l1 := by
  funext a b c
  exact h.1.2.2.2.2.2.2.2.2 a b c
/-- behind a thought -/
theorem RelP.th {R1 W1 Z1 : Nat → Nat → Int32} {T1 : Nat → Nat → Nat} {kn1 : Kn} {n1 f1 m' : Nat} {A1 : Nat → Nat → Int32} (h : RelP m R W Z T kn n D A S N dy tp wt Wc0 len0 V0 l0 Wc1 len1 V1 l1) (hJ : JF R W Z R1 W1 Z1) (hI : CI R1 W1 Z1 T1 kn1 n1 N dy Wc0 len0 Wc1 len1) (hA : ∀ j, j ≠ 2 → j ≠ 4 → j ≠ 6 → j ≠ 7 → j ≠ 8 → j ≠ 9 → A1 j = A j) (hf : f1 ≤ m') : RelP m' R1 W1 Z1 T1 kn1 n1 D A1 (uS S 18 (nI f1)) N dy tp wt Wc0 len0 V0 l0 Wc1 len1 V1 l1 := by
  obtain ⟨h1, g1, g2, g3, g4, g5, g6, g7, g8, g9, g10⟩ := h
  obtain ⟨-, -, -, -, -, i6, -, -, i9, i10⟩ := hI
  obtain ⟨jR, jZ, jW⟩ := hJ
  have w0 : W1 0 = W 0 := jW 0 (by decide)
  have w2 : W1 2 = W 2 := jW 2 (by decide)
  have r : ∀ a, a < 8 ∨ (8 < a ∧ a < 14) ∨ (14 < a ∧ a < 37) ∨ 40 < a → R1 a = R a := fun a ha => jR a (by omega) (by omega) (by omega)
  have z : ∀ b j, b < 36 ∨ b = 37 ∨ b = 38 ∨ 39 < b → Z1 b j = Z b j := fun b j hb => jZ b j (by omega) (by omega)
  refine ⟨?_, i6, ?_, i10, i9, ?_, ?_, ?_, ?_, ?_, f1, uS_s, hf⟩
  · rw [w0, z 1 1 (by omega), r 2 (by omega), z 49 1 (by omega), r 50 (by omega), z 4 1 (by omega), r 5 (by omega), z 10 1 (by omega), r 11 (by omega)]; exact h1
  · rw [w2]; exact g2
  · obtain ⟨p1, p2, p3⟩ := g5
    have e7 : wb 0 + 7 = 22 := rfl
    exact ⟨p1, by rw [z _ _ (by omega)]; exact p2, fun i hi => ⟨(p3 i hi).1, by rw [r _ (by omega)]; exact (p3 i hi).2⟩⟩
  · obtain ⟨t, t1, t2, t3, t4⟩ := g6
    exact ⟨t, t1, by rw [z _ _ (by omega)]; exact t2, by rw [uS_n (by decide)]; exact t3, fun j hj => by rw [r _ (by omega), hA 10 (by decide) (by decide) (by decide) (by decide) (by decide) (by decide)]; exact t4 j hj⟩
  · intro i hi
    obtain ⟨s1, ⟨sz, q1, q2, q3⟩, s3⟩ := g7 i hi
    refine ⟨?_, ⟨sz, q1, ?_, ?_⟩, fun j hj => ?_⟩
    · rw [z _ _ (by omega), hA 11 (by decide) (by decide) (by decide) (by decide) (by decide) (by decide)]; exact s1
    · rw [z _ _ (by omega)]; exact q2
    · rw [hA 12 (by decide) (by decide) (by decide) (by decide) (by decide) (by decide)]; exact q3
    · rw [r _ (by omega), hA 13 (by decide) (by decide) (by decide) (by decide) (by decide) (by decide)]; exact s3 j hj
  · intro k hk
    rw [r _ (by omega), hA 3 (by decide) (by decide) (by decide) (by decide) (by decide) (by decide)]; exact g8 k hk
  · obtain ⟨i1, i2⟩ := g9
    refine ⟨by rw [z _ _ (by omega), uS_n (by decide)]; exact i1, fun hn => ?_⟩
    rw [uS_n (by decide)] at hn
    obtain ⟨a1, a2, a3, a4, a5, a6, a7, a8, a9, a10, a11, a12, hs⟩ := i2 hn
    refine ⟨a1, a2, a3, a4, a5, a6, a7, a8, a9, a10, a11, a12, ?_⟩
    rw [w2, hA 1 (by decide) (by decide) (by decide) (by decide) (by decide) (by decide), z 72 1 (by omega), r 73 (by omega), z 74 1 (by omega), r 75 (by omega), z 76 1 (by omega), r 77 (by omega), z 78 1 (by omega), r 79 (by omega)]
    exact hs
end REL2
