theorem cl_sw {D : Nat → Int32} {k : Nat} (hB : WB D) (hk : k < 8) : cl1 D k / 6 = tN D (50 + 7 * k + 2) ∧ cl1 D k % 6 = tN D (50 + 7 * k + 3) ∧ cl2 D k / 6 = tN D (50 + 7 * k + 3) ∧ cl2 D k % 6 = tN D (50 + 7 * k + 2) ∧ cl1 D k < 36 ∧ cl2 D k < 36 ∧ tN D (50 + 7 * k + 2) ≤ 5 ∧ tN D (50 + 7 * k + 3) ≤ 5 := by
  have h2 := ((hB.k2 hk).t (by decide)).2
  have h3 := ((hB.k3 hk).t (by decide)).2
  unfold cl1 cl2
  omega
theorem imP_p {D : Nat → Int32} {N : Nat} (hB : WB D) (hF : DF N D) (hN : N ≤ 8) : ∀ k, k ≤ N → (imP D k).Nodup ∧ (∀ c, c ∈ imP D k → ¬ c / 6 = c % 6 ∧ c < 36 ∧ 6 * (c % 6) + c / 6 ∈ imP D k) ∧ ∀ i, i < k → D (50 + 7 * i + 6) = nI 1 → cl1 D i ∈ imP D k ∧ cl2 D i ∈ imP D k := by
  intro k
  induction k with
  | zero => intro _; exact ⟨List.nodup_nil, fun c hc => absurd hc (by show ¬ c ∈ []; simp), fun i hi => absurd hi (by omega)⟩
  | succ k ih =>
    intro hk
    obtain ⟨h1, h2, h3⟩ := ih (by omega)
    obtain ⟨s1, s2, s3, s4, s5, s6, s7, s8⟩ := cl_sw hB (show k < 8 by omega)
    have hd := hF k (by omega)
    have e12 : 6 * (cl1 D k % 6) + cl1 D k / 6 = cl2 D k := by omega
    have e21 : 6 * (cl2 D k % 6) + cl2 D k / 6 = cl1 D k := by omega
    by_cases h : D (50 + 7 * k + 6) = nI 1 ∧ ¬ cl1 D k ∈ imP D k
    · rw [imP_t h.1 h.2]
      have n2 : ¬ cl2 D k ∈ imP D k := fun z => h.2 (by have := (h2 _ z).2.2; rw [e21] at this; exact this)
      refine ⟨?_, ?_, ?_⟩
      · rw [List.nodup_append]
        refine ⟨h1, ?_, ?_⟩
        · rw [List.nodup_cons]
          refine ⟨?_, by simp⟩
          simp
          omega
        · intro a ha b hb
          simp at hb
          rcases hb with rfl | rfl
          · intro z; subst z; exact h.2 ha
          · intro z; subst z; exact n2 ha
      · intro c hc
        rw [List.mem_append] at hc
        rcases hc with hc | hc
        · obtain ⟨a, b, g⟩ := h2 c hc
          exact ⟨a, b, List.mem_append_left _ g⟩
        · simp at hc
          rcases hc with rfl | rfl
          · rw [e12]; exact ⟨by omega, s5, List.mem_append_right _ (by simp)⟩
          · rw [e21]; exact ⟨by omega, s6, List.mem_append_right _ (by simp)⟩
      · intro i hi hs
        by_cases e : i = k
        · subst e
          exact ⟨List.mem_append_right _ (by simp), List.mem_append_right _ (by simp)⟩
        · obtain ⟨a, b⟩ := h3 i (by omega) hs
          exact ⟨List.mem_append_left _ a, List.mem_append_left _ b⟩
    · rw [imP_f h]
      refine ⟨h1, h2, fun i hi hs => ?_⟩
      by_cases e : i = k
      · subst e
        have g : cl1 D i ∈ imP D i := Classical.byContradiction (fun z => h ⟨hs, z⟩)
        refine ⟨g, ?_⟩
        have := (h2 _ g).2.2
        rw [e12] at this
        exact this
      · exact h3 i (by omega) hs
theorem gdL_at {L : List Nat} {i : Nat} (h : i < L.length) : L.getD i 0 = L[i] := by
  simp [List.getD, h]
theorem gd_mem {L : List Nat} {i : Nat} (h : i < L.length) : L.getD i 0 ∈ L := by
  rw [gdL_at h]
  exact List.getElem_mem h
theorem gd_ex {L : List Nat} {c : Nat} (h : c ∈ L) : ∃ i, i < L.length ∧ c = L.getD i 0 := by
  obtain ⟨i, hi, e⟩ := List.getElem_of_mem h
  exact ⟨i, hi, by rw [gdL_at hi]; exact e.symm⟩
theorem gd_inj {L : List Nat} (h : L.Nodup) {i j : Nat} (hi : i < L.length) (hj : j < L.length) (e : L.getD i 0 = L.getD j 0) : i = j := by
  rw [gdL_at hi, gdL_at hj] at e
  have hp := List.pairwise_iff_getElem.mp h
  by_cases a : i < j
  · exact absurd e (hp i j hi hj a)
  · by_cases b : j < i
    · exact absurd e.symm (hp j i hj hi b)
    · omega
section TIE
variable {m : Nat} {R W Z : Nat → Nat → Int32} {T : Nat → Nat → Nat} {kn : Kn} {n : Nat} {D : Nat → Int32} {A : Nat → Nat → Int32} {S : Nat → Int32} {N dy tp wt : Nat} {Wc0 : Nat → Nat} {len0 : Nat} {V0 : Nat → Nat} {l0 : Nat} {Wc1 : Nat → Nat} {len1 : Nat} {V1 : Nat → Nat} {l1 : Nat}
/-- days of the reference against days that the class thinks -/
theorem RelP.tie (hP : RelP m R W Z T kn n D A S N dy tp wt Wc0 len0 V0 l0 Wc1 len1 V1 l1) {E F : Nat → Int32} (hA : AG N (fun c => c ∈ imP (W 0) N) E F) (hk : ∀ i, i < N → F (50 + 7 * i + 2) = W 0 (50 + 7 * i + 2) ∧ F (50 + 7 * i + 3) = W 0 (50 + 7 * i + 3) ∧ (F (50 + 7 * i + 6) = nI 1 → W 0 (50 + 7 * i + 6) = nI 1)) (k : Nat) : AG N (fun c => c ∈ imP (W 0) N) (dsD (tgv 0 V0 l0) (tgv 1 V1 l1) N k E).1 (dsG (cvc Wc0 len0) (wvc Wc1 len1) N (fun i => (imP (W 0) N).getD i 0) (imP (W 0) N).length F k).1 ∧ (dsG (cvc Wc0 len0) (wvc Wc1 len1) N (fun i => (imP (W 0) N).getD i 0) (imP (W 0) N).length F k).2 = (dsD (tgv 0 V0 l0) (tgv 1 V1 l1) N k E).2 := by
  obtain ⟨hN8, -, -, -, hB0, hBD, hAT, hDF⟩ := hP.1.1
  obtain ⟨p1, p2, p3⟩ := imP_p hB0 hDF hN8 N (Nat.le_refl _)
  rw [hP.cv, hP.wv]
  refine sim_days hN8 (fun i hi => (p2 _ (gd_mem hi)).2.1) (fun i j hi hj e => gd_inj p1 hi hj e) (fun c hc hPc => ⟨fun _ => gd_ex hPc, fun _ => (p2 c hPc).1⟩) hA (fun i hi hs => ?_) (fun i hi => ?_) k
  · have e2 : tN E (50 + 7 * i + 2) = tN (W 0) (50 + 7 * i + 2) := by unfold tN; rw [← hA.tr hi (by omega), (hk i hi).1]
    have e3 : tN E (50 + 7 * i + 3) = tN (W 0) (50 + 7 * i + 3) := by unfold tN; rw [← hA.tr hi (by omega), (hk i hi).2.1]
    have := p3 i hi ((hk i hi).2.2 (by rw [hA.tr hi (by omega)]; exact hs))
    obtain ⟨s1, s2, s3, s4, -⟩ := cl_sw hB0 (show i < 8 by omega)
    rw [e2, e3]
    refine ⟨?_, ?_⟩
    · show 6 * _ + _ ∈ imP (W 0) N
      rw [show 6 * tN (W 0) (50 + 7 * i + 2) + tN (W 0) (50 + 7 * i + 3) = cl1 (W 0) i by omega]; exact this.1
    · show 6 * _ + _ ∈ imP (W 0) N
      rw [show 6 * tN (W 0) (50 + 7 * i + 3) + tN (W 0) (50 + 7 * i + 2) = cl2 (W 0) i by omega]; exact this.2
  · have e2 : tN E (50 + 7 * i + 2) = tN (W 0) (50 + 7 * i + 2) := by unfold tN; rw [← hA.tr hi (by omega), (hk i hi).1]
    have e3 : tN E (50 + 7 * i + 3) = tN (W 0) (50 + 7 * i + 3) := by unfold tN; rw [← hA.tr hi (by omega), (hk i hi).2.1]
    rw [e2, e3]
    exact hB0.tb5 hN8 i hi
theorem AG.w {N : Nat} {P : Nat → Prop} {D E : Nat → Int32} (h : AG N (fun _ => True) D E) : AG N P D E := fun j hj => h j (by
  rcases hj with a | a | a
  · exact Or.inl a
  · exact Or.inr (Or.inl a)
  · exact Or.inr (Or.inr ⟨a.1, a.2.1, trivial⟩))
theorem AG.t {N : Nat} {P : Nat → Prop} {D E F : Nat → Int32} (h : AG N P D E) (g : AG N P E F) : AG N P D F := fun j hj => (g j hj).trans (h j hj)
/-- the same, of the world as it is -/
theorem RelP.tie0 (hP : RelP m R W Z T kn n D A S N dy tp wt Wc0 len0 V0 l0 Wc1 len1 V1 l1) (k : Nat) : AG N (fun c => c ∈ imP (W 0) N) (dsD (tgv 0 V0 l0) (tgv 1 V1 l1) N k D).1 (dsG (cvc Wc0 len0) (wvc Wc1 len1) N (fun i => (imP (W 0) N).getD i 0) (imP (W 0) N).length (cpW (W 1) (W 0)) k).1 ∧ (dsG (cvc Wc0 len0) (wvc Wc1 len1) N (fun i => (imP (W 0) N).getD i 0) (imP (W 0) N).length (cpW (W 1) (W 0)) k).2 = (dsD (tgv 0 V0 l0) (tgv 1 V1 l1) N k D).2 := by
  obtain ⟨hN8, -, -, -, hB0, hBD, hAT, hDF⟩ := id hP.1.1
  have e : ∀ i j, i < N → j < 7 → cpW (W 1) (W 0) (50 + 7 * i + j) = W 0 (50 + 7 * i + j) := fun i j hi hj => if_pos (by omega)
  exact hP.tie (AG.t (AG.w hAT) (AG.w (AG.cp hN8))) (fun i hi => ⟨e i 2 hi (by omega), e i 3 hi (by omega), fun z => by rw [e i 6 hi (by omega)] at z; exact z⟩) k
theorem ps0_lt : ∀ i, i < 30 → ps0 i < 36 := by decide
theorem ps0_inj : ∀ i, i < 30 → ∀ j, j < 30 → ps0 i = ps0 j → i = j := by decide
theorem ps0_all : ∀ c, c < 36 → (¬ c / 6 = c % 6 ↔ ∃ i, i < 30 ∧ c = ps0 i) := by decide
/-- days that pass -/
theorem RelP.tieD (hP : RelP m R W Z T kn n D A S N dy tp wt Wc0 len0 V0 l0 Wc1 len1 V1 l1) (k : Nat) : AT N (dsD (tgv 0 V0 l0) (tgv 1 V1 l1) N k D).1 (dsG (cvc Wc0 len0) (wvc Wc1 len1) N ps0 30 (W 0) k).1 ∧ (dsG (cvc Wc0 len0) (wvc Wc1 len1) N ps0 30 (W 0) k).2 = (dsD (tgv 0 V0 l0) (tgv 1 V1 l1) N k D).2 := by
  obtain ⟨hN8, -, -, -, hB0, hBD, hAT, hDF⟩ := id hP.1.1
  rw [hP.cv, hP.wv]
  exact sim_days hN8 ps0_lt (fun i j hi hj e => ps0_inj i hi j hj e) (fun c hc _ => ps0_all c hc) hAT (fun _ _ _ => ⟨trivial, trivial⟩) (hBD.tb5 hN8) k
end TIE
