theorem wrt_lo (f : Nat → Int32) : ∀ (L : List Nat) (m j : Nat), j < m → wrt f m L j = f j := by
  intro L
  induction L generalizing f with
  | nil => intro m j h; rfl
  | cons t L ih =>
    intro m j h
    show wrt (upd f m (nI t)) (m + 1) L j = _
    rw [ih _ (m + 1) j (by omega), pk_un (by omega)]
theorem len_vcl : ∀ a, a ≤ 3 → ∀ k, k ≤ 6 → (vcl a k).length ≤ 30 := by decide
theorem wrt_pt (f g : Nat → Int32) : ∀ (L : List Nat) (m j : Nat), m ≤ j → j < m + L.length → wrt f m L j = wrt g m L j := by
  intro L
  induction L generalizing f g with
  | nil => intro m j h1 h2; simp at h2; omega
  | cons t L ih =>
    intro m j h1 h2
    show wrt (upd f m (nI t)) (m + 1) L j = wrt (upd g m (nI t)) (m + 1) L j
    by_cases e : j = m
    · subst e
      rw [wrt_lo _ _ _ _ (by omega), wrt_lo _ _ _ _ (by omega), pk_us, pk_us]
    · exact ih _ _ (m + 1) j (by omega) (by simp at h2; omega)
theorem RelP.o2 {m a : Nat} {R W Z : Nat → Nat → Int32} {T : Nat → Nat → Nat} {kn : Kn} {n : Nat} {D P : Nat → Int32} {A A1 : Nat → Nat → Int32} {S : Nat → Int32} {N dy tp wt : Nat} {Wc0 : Nat → Nat} {len0 : Nat} {V0 : Nat → Nat} {l0 : Nat} {Wc1 : Nat → Nat} {len1 : Nat} {V1 : Nat → Nat} {l1 : Nat} (h : RelP m R W Z T kn n D A S N dy tp wt Wc0 len0 V0 l0 Wc1 len1 V1 l1) (ha : a = 8 ∨ a = 14) (hA : ∀ j, j ≠ 4 → j ≠ 6 → A1 j = A j) : RelP m (uA R a P) W Z T kn n D A1 S N dy tp wt Wc0 len0 V0 l0 Wc1 len1 V1 l1 := by
  obtain ⟨h1, g1, g2, g3, g4, g5, g6, g7, g8, g9, g10⟩ := h
  have r : ∀ b, b < 8 ∨ (8 < b ∧ b < 14) ∨ 14 < b → uA R a P b = R b := fun b hb => uA_n (by omega)
  refine ⟨?_, g1, g2, g3, g4, g5.c (r 23 (by omega)) rfl, g6.c (r 52 (by omega)) rfl (hA 10 (by decide) (by decide)) rfl, g7.c (fun i hi => r _ (by omega)) (fun _ _ _ => rfl) (hA 11 (by decide) (by decide)) (hA 12 (by decide) (by decide)) (hA 13 (by decide) (by decide)), g8.c (r 54 (by omega)) (hA 3 (by decide) (by decide)), g9.c rfl (hA 1 (by decide) (by decide)) rfl rfl (fun _ _ => rfl) (fun b hb => r b (by omega)), g10⟩
  rw [r 2 (by omega), r 50 (by omega), r 5 (by omega), r 11 (by omega)]
  exact h1
set_option maxRecDepth 10000 in
theorem j_count {l : Launch} {d m n : Nat} {R W Z : Nat → Nat → Int32} {T : Nat → Nat → Nat} {kn : Kn} {D : Nat → Int32} {A : Nat → Nat → Int32} {S : Nat → Int32} {x : Int32} (hR : Rel m R W Z T kn n D A S) : Ct l M_F_count (d + 60) 0 0 [.ref 0, .int x] n (co R W Z T kn (mo 88 D A S hN)) (JN m l M_Mo_count (d + 60) [.ref 88, .int x]) := by
  obtain ⟨N, dy, tp, wt, Wc0, len0, V0, l0, Wc1, len1, V1, l1, hP⟩ := id hR
  obtain ⟨hS, hB1, hB2, hK, hT, hPr, hTr, hSh, hEr, hIm, fm, hfm, hfl⟩ := id hP
  obtain ⟨⟨hN8, d0, d1, dy9, hB0, hBD, hAT, hDF⟩, ⟨tp1, tp2, tp3, tp4⟩, ⟨wt1, wt2, wt3, wt4⟩, hQ0, hQ1⟩ := id hS
  have e0 : W 0 0 = nI N := (hAT.lo (by omega)).trans d0
  have hdy : W 0 1 = nI dy := (hAT.lo (by omega)).trans d1
  have hTS : TS D N := fun t ht => ⟨hBD.k0 (by omega), hBD.k2 (by omega), hBD.k3 (by omega)⟩
  have aT : ∀ i k, i < N → k < 7 → W 0 (50 + 7 * i + k) = D (50 + 7 * i + k) := fun i k hi hk => hAT.tr hi hk
  have hc : ∀ w, w ≤ 10 → cnt D N (S 20) w = cnC W Z N w := fun w hw => by
    obtain ⟨tm, t1, t2, t3, t4⟩ := id hTr
    unfold cnt cnC
    by_cases h5 : w < 5
    · rw [if_pos h5, if_pos h5]; exact (hAT.lo (by omega)).symm
    · rw [if_neg h5, if_neg h5, stb_S N (fun i hi => hBD.k6 (by omega)), ← hAT.stS_, ← smh_c (E := W 0) (fun j hj => hAT _ (Or.inr (Or.inr ⟨by omega, by omega, trivial⟩))) 36 (Nat.le_refl _), tp3, tp2, wt3, wt2, t3, t2, ← hAT.lo (show 5 < 6 by omega)]
  refine c_F_count hN8 e0 hT hB0 (fun hE => JN.of hT (fun Q2 q => ?_)) (fun w hw ex => JN.of hT (fun Q2 q => ?_))
  · exact c_Mo_count hN8 d0 (fun _ => q _ _ _ _ _ _ _ _ _ rfl (hR.err.mm (by omega))) (fun w hw ex => absurd hE (by rw [ex, wiT hw (by decide)]; decide))
  · subst ex
    refine c_Mo_count hN8 d0 (fun hE => absurd hE (by rw [wiT hw (by decide)]; decide)) (fun w' hw' ex => ?_)
    obtain rfl := (nI_eq (by omega) (by omega)).mp ex
    exact q _ _ _ _ _ _ _ _ _ (hc w hw) (hR.mm (by omega))
set_option maxRecDepth 10000 in
theorem j_voice {l : Launch} {d m n : Nat} {R W Z : Nat → Nat → Int32} {T : Nat → Nat → Nat} {kn : Kn} {D : Nat → Int32} {A : Nat → Nat → Int32} {S : Nat → Int32} {x y z : Int32} (hR : Rel m R W Z T kn n D A S) : Ct l M_F_voice (d + 60) 0 0 [.ref 0, .int x, .int y, .int z] n (co R W Z T kn (mo 88 D A S hN)) (JN m l M_Mo_voice (d + 60) [.ref 88, .int x, .int y, .int z]) := by
  obtain ⟨N, dy, tp, wt, Wc0, len0, V0, l0, Wc1, len1, V1, l1, hP⟩ := id hR
  obtain ⟨hS, hB1, hB2, hK, hT, hPr, hTr, hSh, hEr, hIm, fm, hfm, hfl⟩ := id hP
  obtain ⟨⟨hN8, d0, d1, dy9, hB0, hBD, hAT, hDF⟩, ⟨tp1, tp2, tp3, tp4⟩, ⟨wt1, wt2, wt3, wt4⟩, hQ0, hQ1⟩ := id hS
  have e0 : W 0 0 = nI N := (hAT.lo (by omega)).trans d0
  have hdy : W 0 1 = nI dy := (hAT.lo (by omega)).trans d1
  have hTS : TS D N := fun t ht => ⟨hBD.k0 (by omega), hBD.k2 (by omega), hBD.k3 (by omega)⟩
  have aT : ∀ i k, i < N → k < 7 → W 0 (50 + 7 * i + k) = D (50 + 7 * i + k) := fun i k hi hk => hAT.tr hi hk
  refine c_F_voice hN8 e0 hT hB0 (fun hE => JN.of hT (fun Q2 q => ?_)) (fun i a k0 hi ha ex ey hk ek => JN.of hT (fun Q2 q => ?_))
  · exact c_Mo_voice hN8 d0 hTS (fun _ => q _ _ _ _ _ _ _ _ _ rfl (hR.err.mm (by omega))) (fun i a k0 hi ha ex ey hk ek => absurd hE (by rw [ex, ey, wiN hi (by omega), wiT ha (by decide)]; decide))
  · subst ex ey
    refine c_Mo_voice hN8 d0 hTS (fun hE => absurd hE (by rw [wiN hi (by omega), wiT ha (by decide)]; decide)) (fun i' a' k' hi' ha' ex ey hk' ek' => ?_)
    obtain rfl := (nI_eq (by omega) (by omega)).mp ex
    obtain rfl := (nI_eq (by omega) (by omega)).mp ey
    rw [aT i 0 hi (by omega), ek'] at ek
    obtain rfl := (nI_eq (by omega) (by omega)).mp ek
    refine q _ _ _ _ _ _ _ _ _ (by rw [aT i 1 hi (by omega)]) ((hP.o (fun _ _ => rfl) (fun a h => uA_n (by omega)) (fun b j h => by rw [uZ_n (by omega), uZ_n (by omega)]) ?_ ?_ ?_ ?_ ?_ hfl).r.mm (by omega))
    · have hl : (vcl a k').length ≤ 40 := by
        have := len_vcl a ha k' hk'
        omega
      refine ⟨(vcl a k').length, hl, by rw [uZ_s, Nat.zero_add], by unfold trS; rw [uS_s, Nat.zero_add], fun j hj => ?_⟩
      show uA R 52 (wrt (R 52) 0 (vcl a k')) 52 j = _
      rw [uA_s]
      show _ = uA A 10 (wrt (A 10) 0 (vcl a k')) 10 j
      rw [uA_s]
      exact wrt_pt _ _ _ _ _ (by omega) (by omega)
    · exact hSh.c (fun i hi => uA_n (by omega)) (fun i k hi => by rw [uZ_n (by omega), uZ_n (by omega)]) (by unfold trA; rw [uA_n (by decide)]) (by unfold trA; rw [uA_n (by decide)]) (by unfold trA; rw [uA_n (by decide)])
    · exact hEr.c (uA_n (by decide)) (by unfold trA; rw [uA_n (by decide)])
    · exact hIm.c rfl (by unfold trA; rw [uA_n (by decide)]) (by unfold trS; rw [uS_n (by decide), uS_n (by decide), uS_n (by decide)]) (by rw [uZ_n (by decide), uZ_n (by decide)]) (fun b h => by rw [uZ_n (by omega), uZ_n (by omega)]) (fun a h => uA_n (by omega))
    · unfold trS; rw [uS_n (by decide), uS_n (by decide), uS_n (by decide)]; exact hfm
set_option maxRecDepth 10000 in
theorem j_law {l : Launch} {d m n : Nat} {R W Z : Nat → Nat → Int32} {T : Nat → Nat → Nat} {kn : Kn} {D : Nat → Int32} {A : Nat → Nat → Int32} {S : Nat → Int32} {x a b c : Int32} (hR : Rel m R W Z T kn n D A S) (hm : m < 2 ^ 25) : Ct l M_F_law (d + 60) 0 0 [.ref 0, .int x, .int a, .int b, .int c] n (co R W Z T kn (mo 88 D A S hN)) (JN m l M_Mo_law (d + 60) [.ref 88, .int x, .int a, .int b, .int c]) := by
  obtain ⟨N, dy, tp, wt, Wc0, len0, V0, l0, Wc1, len1, V1, l1, hP⟩ := id hR
  obtain ⟨hS, hB1, hB2, hK, hT, hPr, hTr, hSh, hEr, hIm, fm, hfm, hfl⟩ := id hP
  obtain ⟨⟨hN8, d0, d1, dy9, hB0, hBD, hAT, hDF⟩, ⟨tp1, tp2, tp3, tp4⟩, ⟨wt1, wt2, wt3, wt4⟩, hQ0, hQ1⟩ := id hS
  have e0 : W 0 0 = nI N := (hAT.lo (by omega)).trans d0
  have hdy : W 0 1 = nI dy := (hAT.lo (by omega)).trans d1
  have hTS : TS D N := fun t ht => ⟨hBD.k0 (by omega), hBD.k2 (by omega), hBD.k3 (by omega)⟩
  have aT : ∀ i k, i < N → k < 7 → W 0 (50 + 7 * i + k) = D (50 + 7 * i + k) := fun i k hi hk => hAT.tr hi hk
  refine c_F_law ⟨hQ0.1, hQ0.2.1, hQ0.2.2.1⟩ ⟨hQ1.1, hQ1.2.1, hQ1.2.2.1⟩ (fun hE => JN.of hT (fun Q2 q => ?_)) (fun ex P => JN.of hT (fun Q2 q => ?_)) (fun ex P => JN.of hT (fun Q2 q => ?_))
  · exact c_Mo_law hN8 hP.dw (by omega) hfm (fun _ => q _ _ _ _ _ _ _ _ _ rfl (hR.err.mm (by omega))) (fun u hu ex A1 hA => absurd hE (by rw [ex, wiT hu (by decide)]; decide))
  · subst ex
    refine c_Mo_law hN8 hP.dw (by omega) hfm (fun hE => absurd hE (by decide)) (fun u hu ex A1 hA => ?_)
    obtain rfl := (nI_eq (by decide) (by omega)).mp ex
    rw [if_pos rfl, ← hP.cv]
    exact q _ _ _ _ _ _ _ _ _ rfl ((hP.o2 (a := 8) (Or.inl rfl) hA).r.mm (by omega))
  · subst ex
    refine c_Mo_law hN8 hP.dw (by omega) hfm (fun hE => absurd hE (by decide)) (fun u hu ex A1 hA => ?_)
    obtain rfl := (nI_eq (by decide) (by omega)).mp ex
    rw [if_neg (by decide), ← hP.wv]
    exact q _ _ _ _ _ _ _ _ _ rfl ((hP.o2 (a := 14) (Or.inr rfl) hA).r.mm (by omega))
set_option maxRecDepth 10000 in
theorem j_tree {l : Launch} {d m n : Nat} {R W Z : Nat → Nat → Int32} {T : Nat → Nat → Nat} {kn : Kn} {D : Nat → Int32} {A : Nat → Nat → Int32} {S : Nat → Int32} {x y v u : Int32} (hR : Rel m R W Z T kn n D A S) : Ct l M_F_tree (d + 60) 1 8 [.ref 0, .int x, .int y, .int v, .int u] n (co R W Z T kn (mo 88 D A S hN)) (JN m l M_Mo_tree (d + 60) [.ref 88, .int x, .int y, .int v, .int u]) := by
  obtain ⟨N, dy, tp, wt, Wc0, len0, V0, l0, Wc1, len1, V1, l1, hP⟩ := id hR
  obtain ⟨hS, hB1, hB2, hK, hT, hPr, hTr, hSh, hEr, hIm, fm, hfm, hfl⟩ := id hP
  obtain ⟨⟨hN8, d0, d1, dy9, hB0, hBD, hAT, hDF⟩, ⟨tp1, tp2, tp3, tp4⟩, ⟨wt1, wt2, wt3, wt4⟩, hQ0, hQ1⟩ := id hS
  have e0 : W 0 0 = nI N := (hAT.lo (by omega)).trans d0
  have hdy : W 0 1 = nI dy := (hAT.lo (by omega)).trans d1
  have hTS : TS D N := fun t ht => ⟨hBD.k0 (by omega), hBD.k2 (by omega), hBD.k3 (by omega)⟩
  have aT : ∀ i k, i < N → k < 7 → W 0 (50 + 7 * i + k) = D (50 + 7 * i + k) := fun i k hi hk => hAT.tr hi hk
  refine c_F_tree hN8 e0 hT hB0 hN_mo (fun hE => JN.of hT (fun Q2 q => ?_)) (fun h1 h2 h3 h4 h5 h6 => JN.of hT (fun Q2 q => ?_)) (fun a b ha hb ex ey h2 h3 h4 h5 => JN.of (hT.nt (by decide) h5) (fun Q2 q => ?_))
  · exact c_Mo_tree hN8 d0 (fun _ => q _ _ _ _ _ _ _ _ _ rfl (hR.err.mm (by omega))) (fun h1 h2 h3 h4 h5 h6 => absurd hE (by rw [h1, h2, h3, h4, h5]; decide)) (fun a b ha hb ex ey h2 h3 h4 h5 => absurd hE (by
      have e1 : nI b / nI 10 = nI (b / 10) := pk_div (by omega) (by decide) (by decide)
      have e2 : irm (nI b) (nI 10) = nI (b % 10) := pk_rem (by omega) (by decide) (by decide)
      rw [ex, ey, e1, e2, h2, h3, h4, wiT ha (by decide), wiT hb (by decide)]; decide))
  · exact c_Mo_tree hN8 d0 (fun hE => absurd hE (by rw [h1, h2, h3, h4, h5]; decide)) (fun _ _ _ _ _ _ => q _ _ _ _ _ _ _ _ _ rfl (hR.err.mm (by omega))) (fun a b _ _ _ _ _ _ _ h => absurd h6 (by omega))
  · have e1 : nI b / nI 10 = nI (b / 10) := pk_div (by omega) (by decide) (by decide)
    have e2 : irm (nI b) (nI 10) = nI (b % 10) := pk_rem (by omega) (by decide) (by decide)
    refine c_Mo_tree hN8 d0 (fun hE => absurd hE (by rw [ex, ey, e1, e2, h2, h3, h4, wiT ha (by decide), wiT hb (by decide)]; decide)) (fun _ _ _ _ _ h => absurd h (by omega)) (fun a' b' ha' hb' ex' ey' _ _ _ _ => ?_)
    have ea : a = a' := (nI_eq (by omega) (by omega)).mp (ex.symm.trans ex')
    have eb : b = b' := (nI_eq (by omega) (by omega)).mp (ey.symm.trans ey')
    subst ea eb
    obtain ⟨kv, hkv, rfl⟩ := wi_nat (k := 15) (by decide) h3
    obtain ⟨ku, hku, rfl⟩ := wi_nat (k := 99) (by decide) h4
    have h2' : ¬ b / 10 = b % 10 := fun z => by
      rw [z] at h2
      unfold two at h2
      simp at h2
    obtain ⟨b0, b1, b2, b3, b4, b5, b6⟩ := bnd_r N h5
    have hb6 : b / 10 ≤ 5 ∧ b % 10 ≤ 5 := by
      unfold two at h2
      rw [Bool.and_eq_true, Bool.and_eq_true] at h2
      obtain ⟨i, hi, ei⟩ := wi_nat (k := 5) (by decide) h2.1.1
      obtain ⟨j, hj, ej⟩ := wi_nat (k := 5) (by decide) h2.1.2
      have := (nI_eq (by omega) (by omega)).mp ei
      have := (nI_eq (by omega) (by omega)).mp ej
      omega
    have hw : ∀ E : Nat → Int32, WB E → WB (upd (upd (upd (upd (upd (upd (upd (upd E (50 + 7 * N + 0) (nI (a / 10))) (50 + 7 * N + 1) (nI (a % 10))) (50 + 7 * N + 2) (nI (b / 10))) (50 + 7 * N + 3) (nI (b % 10))) (50 + 7 * N + 4) (nI kv)) (50 + 7 * N + 5) (nI ku)) (50 + 7 * N + 6) (nI 1)) 0 (nI (N + 1))) := fun E hE =>
      WB.u (WB.u (WB.u (WB.u (WB.u (WB.u (WB.u (WB.u hE (fun _ => ⟨a / 10, by rw [b0]; omega, rfl⟩)) (fun _ => ⟨a % 10, by rw [b1]; omega, rfl⟩)) (fun _ => ⟨b / 10, by rw [b2]; omega, rfl⟩)) (fun _ => ⟨b % 10, by rw [b3]; omega, rfl⟩)) (fun _ => ⟨kv, by rw [b4]; exact hkv, rfl⟩)) (fun _ => ⟨ku, by rw [b5]; exact hku, rfl⟩)) (fun _ => ⟨1, by rw [b6]; omega, rfl⟩)) (fun _ => ⟨N + 1, by show N + 1 ≤ 8; omega, rfl⟩)
    refine q _ _ _ _ _ _ _ _ _ rfl (((hP.w (N' := N + 1) (dy' := dy) ⟨by omega, pk_us, ?_, dy9⟩ (hw _ hB0) (hw _ hBD) ?_ ?_ (fun j hj => ?_)).t (hT.nt (by decide) h5)).r.mm (by omega))
    · rw [pk_un (by omega), pk_un (by omega), pk_un (by omega), pk_un (by omega), pk_un (by omega), pk_un (by omega), pk_un (by omega), pk_un (by omega)]; exact d1
    · intro j hj
      have hj' : j < 6 ∨ (8 ≤ j ∧ j < 50 + 7 * (N + 1)) := by
        rcases hj with h | h | h
        · omega
        · omega
        · have := h.1
          have := h.2.1
          omega
      have hA' : ∀ j, (j < 6 ∨ (8 ≤ j ∧ j < 50 + 7 * N)) → W 0 j = D j := fun j h => hAT j (by
        by_cases h1 : j < 6
        · exact Or.inl h1
        · by_cases h2 : 44 ≤ j
          · exact Or.inr (Or.inl (by omega))
          · exact Or.inr (Or.inr ⟨by omega, by omega, trivial⟩))
      exact ags_u (ags_u (ags_u (ags_u (ags_u (ags_u (ags_u (ags_u hA'))))))) j (by omega)
    · intro i hi
      unfold tN
      by_cases e : i = N
      · subst e
        rw [pk_un (by omega), pk_un (by omega), pk_un (by omega), pk_un (by omega), pk_un (by omega), pk_us, pk_un (by omega), pk_un (by omega), pk_un (by omega), pk_un (by omega), pk_us, icl (by omega), icl (by omega)]
        exact h2'
      · rw [pk_un (by omega), pk_un (by omega), pk_un (by omega), pk_un (by omega), pk_un (by omega), pk_un (by omega), pk_un (by omega), pk_un (by omega), pk_un (by omega), pk_un (by omega), pk_un (by omega), pk_un (by omega), pk_un (by omega), pk_un (by omega), pk_un (by omega), pk_un (by omega)]
        exact hDF i (by omega)
    · rw [pk_un (by omega), pk_un (by omega), pk_un (by omega), pk_un (by omega), pk_un (by omega), pk_un (by omega), pk_un (by omega), pk_un (by omega)]
set_option maxRecDepth 10000 in
theorem j_become {l : Launch} {d m n : Nat} {R W Z : Nat → Nat → Int32} {T : Nat → Nat → Nat} {kn : Kn} {D : Nat → Int32} {A : Nat → Nat → Int32} {S : Nat → Int32} {x y : Int32} (hR : Rel m R W Z T kn n D A S) : Ct l M_F_become (d + 60) 1 8 [.ref 0, .int x, .int y] n (co R W Z T kn (mo 88 D A S hN)) (JN m l M_Mo_become (d + 60) [.ref 88, .int x, .int y]) := by
  obtain ⟨N, dy, tp, wt, Wc0, len0, V0, l0, Wc1, len1, V1, l1, hP⟩ := id hR
  obtain ⟨hS, hB1, hB2, hK, hT, hPr, hTr, hSh, hEr, hIm, fm, hfm, hfl⟩ := id hP
  obtain ⟨⟨hN8, d0, d1, dy9, hB0, hBD, hAT, hDF⟩, ⟨tp1, tp2, tp3, tp4⟩, ⟨wt1, wt2, wt3, wt4⟩, hQ0, hQ1⟩ := id hS
  have e0 : W 0 0 = nI N := (hAT.lo (by omega)).trans d0
  have hdy : W 0 1 = nI dy := (hAT.lo (by omega)).trans d1
  have hTS : TS D N := fun t ht => ⟨hBD.k0 (by omega), hBD.k2 (by omega), hBD.k3 (by omega)⟩
  have aT : ∀ i k, i < N → k < 7 → W 0 (50 + 7 * i + k) = D (50 + 7 * i + k) := fun i k hi hk => hAT.tr hi hk
  refine c_F_become hN8 e0 hT hB0 hN_mo (fun hE => JN.of hT (fun Q2 q => ?_)) (fun i a hi ha ex ey => JN.of (hT.nt (by decide) (by omega)) (fun Q2 q => ?_))
  · exact c_Mo_become hN8 d0 (fun _ => q _ _ _ _ _ _ _ _ _ rfl (hR.err.mm (by omega))) (fun i a hi ha ex ey => absurd hE (by rw [ex, ey, wiN hi (by omega), wiT ha (by decide)]; decide))
  · subst ex ey
    refine c_Mo_become hN8 d0 (fun hE => absurd hE (by rw [wiN hi (by omega), wiT ha (by decide)]; decide)) (fun i' a' hi' ha' ex ey => ?_)
    obtain rfl := (nI_eq (by omega) (by omega)).mp ex
    obtain rfl := (nI_eq (by omega) (by omega)).mp ey
    obtain ⟨b0, b1, -⟩ := bnd_r i (by omega)
    have h1 := hP.u (j := 50 + 7 * i + 0) (x := nI (a / 10)) (by omega) (Or.inr ⟨a / 10, by rw [b0]; omega, rfl⟩)
    have h2 := h1.u (j := 50 + 7 * i + 1) (x := nI (a % 10)) (by omega) (Or.inr ⟨a % 10, by rw [b1]; omega, rfl⟩)
    rw [uW_s, uW_uu] at h2
    exact q _ _ _ _ _ _ _ _ _ (aT i 0 hi (by omega)).symm ((h2.t (hT.nt (by decide) (by omega))).r.mm (by omega))
