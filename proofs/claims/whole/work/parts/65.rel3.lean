section REL3
variable {m : Nat} {R W Z R' W' Z' : Nat → Nat → Int32} {T : Nat → Nat → Nat} {kn : Kn} {n : Nat} {D : Nat → Int32} {A A' : Nat → Nat → Int32} {S S' : Nat → Int32} {N dy tp wt : Nat} {Wc0 : Nat → Nat} {len0 : Nat} {V0 : Nat → Nat} {l0 : Nat} {Wc1 : Nat → Nat} {len1 : Nat} {V1 : Nat → Nat} {l1 : Nat}
theorem PR.c (h : PR R Z 0 30 ps0) (hR : R' 23 = R 23) (hZ : Z' 22 1 = Z 22 1) : PR R' Z' 0 30 ps0 := by
  obtain ⟨p1, p2, p3⟩ := h
  refine ⟨p1, ?_, fun i hi => ⟨(p3 i hi).1, ?_⟩⟩
  · show Z' 22 1 = _
    rw [hZ]; exact p2
  · show R' 23 i = _
    rw [hR]; exact (p3 i hi).2
theorem TRR.c (h : TRR R Z A S) (hR : R' 52 = R 52) (hZ : Z' 51 1 = Z 51 1) (hA : A' 10 = A 10) (hS : S' 20 = S 20) : TRR R' Z' A' S' := by
  obtain ⟨t, t1, t2, t3, t4⟩ := h
  exact ⟨t, t1, by rw [hZ]; exact t2, by rw [hS]; exact t3, fun j hj => by rw [hR, hA]; exact t4 j hj⟩
theorem SHR.c (h : SHR R Z A) (hR : ∀ i, i < 4 → R' (80 + 2 * i + 1) = R (80 + 2 * i + 1)) (hZ : ∀ i k, i < 4 → Z' (80 + 2 * i) k = Z (80 + 2 * i) k) (h11 : A' 11 = A 11) (h12 : A' 12 = A 12) (h13 : A' 13 = A 13) : SHR R' Z' A' := fun i hi => by
  obtain ⟨s1, ⟨sz, q1, q2, q3⟩, s3⟩ := h i hi
  exact ⟨by rw [hZ i 2 hi, h11]; exact s1, ⟨sz, q1, by rw [hZ i 1 hi]; exact q2, by rw [h12]; exact q3⟩, fun j hj => by rw [hR i hi, h13]; exact s3 j hj⟩
theorem ERR.c (h : ERR R A) (hR : R' 54 = R 54) (hA : A' 3 = A 3) : ERR R' A' := fun k hk => by rw [hR, hA]; exact h k hk
theorem IMR.c (h : IMR R W Z A S) (hW : W' 2 = W 2) (hA : A' 1 = A 1) (hS : S' 3 = S 3) (hZ : Z' 0 14 = Z 0 14) (z : ∀ b, b = 72 ∨ b = 74 ∨ b = 76 ∨ b = 78 → Z' b 1 = Z b 1) (r : ∀ a, a = 73 ∨ a = 75 ∨ a = 77 ∨ a = 79 → R' a = R a) : IMR R' W' Z' A' S' := by
  obtain ⟨i1, i2⟩ := h
  refine ⟨by rw [hZ, hS]; exact i1, fun hn => ?_⟩
  rw [hS] at hn
  obtain ⟨a1, a2, a3, a4, a5, a6, a7, a8, a9, a10, a11, a12, hs⟩ := i2 hn
  refine ⟨a1, a2, a3, a4, a5, a6, a7, a8, a9, a10, a11, a12, ?_⟩
  rw [hW, hA, z 72 (by omega), r 73 (by omega), z 74 (by omega), r 75 (by omega), z 76 (by omega), r 77 (by omega), z 78 (by omega), r 79 (by omega)]
  exact hs
theorem RelP.t {T' : Nat → Nat → Nat} {n' : Nat} (h : RelP m R W Z T kn n D A S N dy tp wt Wc0 len0 V0 l0 Wc1 len1 V1 l1) (hT : TI T' kn n') : RelP m R W Z T' kn n' D A S N dy tp wt Wc0 len0 V0 l0 Wc1 len1 V1 l1 := by
  obtain ⟨h1, g1, g2, g3, g4, g5, g6, g7, g8, g9, g10⟩ := h
  exact ⟨h1, g1, g2, g3, hT, g5, g6, g7, g8, g9, g10⟩
theorem ags_u {s : Nat → Prop} {D E : Nat → Int32} {a : Nat} {x : Int32} (h : ∀ j, s j → E j = D j) : ∀ j, (s j ∨ j = a) → upd E a x j = upd D a x j := fun j hj => by
  by_cases e : j = a
  · subst e; rw [pk_us, pk_us]
  · rw [pk_un e, pk_un e]; exact h j (hj.resolve_right e)
/-- another number of what the class and the reference look at elsewhere -/
theorem RelP.o (h : RelP m R W Z T kn n D A S N dy tp wt Wc0 len0 V0 l0 Wc1 len1 V1 l1) {fm' : Nat} (hW : ∀ v, v < 3 → W' v = W v) (r : ∀ a, a < 52 ∨ (54 < a ∧ a < 80) → R' a = R a) (z : ∀ b j, (0 < b ∧ b < 51) ∨ (51 < b ∧ b < 80) → Z' b j = Z b j) (hT : TRR R' Z' A' S') (hH : SHR R' Z' A') (hE : ERR R' A') (hI : IMR R' W' Z' A' S') (hS : S' 18 = nI fm') (hf : fm' ≤ m) : RelP m R' W' Z' T kn n D A' S' N dy tp wt Wc0 len0 V0 l0 Wc1 len1 V1 l1 := by
  obtain ⟨h1, g1, g2, g3, g4, g5, g6, g7, g8, g9, g10⟩ := h
  refine ⟨?_, ?_, ?_, g3, g4, g5.c (r 23 (by omega)) (z 22 1 (by omega)), hT, hH, hE, hI, fm', hS, hf⟩
  · rw [hW 0 (by omega), z 1 1 (by omega), r 2 (by omega), z 49 1 (by omega), r 50 (by omega), z 4 1 (by omega), r 5 (by omega), z 10 1 (by omega), r 11 (by omega)]; exact h1
  · rw [hW 1 (by omega)]; exact g1
  · rw [hW 2 (by omega)]; exact g2
end REL3
theorem stb_S {D : Nat → Int32} : ∀ N, (∀ i, i < N → NB D (50 + 7 * i + 6) 1) → stb D N = stS D true N := by
  intro N
  induction N with
  | zero => intro _; rfl
  | succ N ih =>
    intro h
    show stb D N ||| (D (50 + 7 * N + 6) <<< (nI N &&& 31)) = _
    rw [ih (fun i hi => h i (by omega))]
    obtain ⟨k, hk, e⟩ := h N (by omega)
    rcases (show k = 0 ∨ k = 1 by omega) with rfl | rfl
    · rw [← stS_f (b := true) (by rw [e]; decide), e]
      have z : nI 0 <<< (nI N &&& 31) = 0 := by
        rw [nI_0]
        exact Int32.zero_shiftLeft
      rw [z, Int32.or_zero]
    · rw [← stS_t (b := true) (by rw [e]; rfl), e]
theorem smh_c {D E : Nat → Int32} (h : ∀ j, j < 36 → E (8 + j) = D (8 + j)) : ∀ k, k ≤ 36 → smh E k = smh D k := by
  intro k
  induction k with
  | zero => intro _; rfl
  | succ k ih =>
    intro hk
    show smh E k + E (8 + k) = smh D k + D (8 + k)
    rw [ih (by omega), h k (by omega)]
