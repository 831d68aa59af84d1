set_option maxRecDepth 10000 in
theorem j_hold {l : Launch} {d m n : Nat} {R W Z : Nat → Nat → Int32} {T : Nat → Nat → Nat} {kn : Kn} {D : Nat → Int32} {A : Nat → Nat → Int32} {S : Nat → Int32} {x y v : Int32} (hR : Rel m R W Z T kn n D A S) : Ct l M_F_hold (d + 60) 0 0 [.ref 0, .int x, .int y, .int v] n (co R W Z T kn (mo 88 D A S hN)) (JN m l M_Mo_hold (d + 60) [.ref 88, .int x, .int y, .int v]) := by
  obtain ⟨N, dy, tp, wt, Wc0, len0, V0, l0, Wc1, len1, V1, l1, hP⟩ := id hR
  obtain ⟨hS, hB1, hB2, hK, hT, hPr, hTr, hSh, hEr, hIm, fm, hfm, hfl⟩ := id hP
  obtain ⟨⟨hN8, d0, d1, dy9, hB0, hBD, hAT, hDF⟩, ⟨tp1, tp2, tp3, tp4⟩, ⟨wt1, wt2, wt3, wt4⟩, hQ0, hQ1⟩ := id hS
  have e0 : W 0 0 = nI N := (hAT.lo (by omega)).trans d0
  have hdy : W 0 1 = nI dy := (hAT.lo (by omega)).trans d1
  have hTS : TS D N := fun t ht => ⟨hBD.k0 (by omega), hBD.k2 (by omega), hBD.k3 (by omega)⟩
  have aT : ∀ i k, i < N → k < 7 → W 0 (50 + 7 * i + k) = D (50 + 7 * i + k) := fun i k hi hk => hAT.tr hi hk
  refine c_F_hold hT (fun hE => JN.of hT (fun Q2 q => ?_)) (fun a b ha hb hab ex ey hv => JN.of hT (fun Q2 q => ?_))
  · exact c_Mo_hold (fun _ => q _ _ _ _ _ _ _ _ _ rfl (hR.err.mm (by omega))) (fun a b ha hb hab ex ey hv => absurd hE (by rw [ex, ey, hv, twoT ha hb hab]; decide))
  · subst ex ey
    refine c_Mo_hold (fun hE => absurd hE (by rw [hv, twoT ha hb hab]; decide)) (fun a' b' ha' hb' hab' ex ey hv' => ?_)
    obtain rfl := (nI_eq (by omega) (by omega)).mp ex
    obtain rfl := (nI_eq (by omega) (by omega)).mp ey
    obtain ⟨k, hk, rfl⟩ := wi_nat (k := 99) (by decide) hv
    rw [show 8 + 6 * a + b = 8 + (a * 6 + b) by omega]
    exact q _ _ _ _ _ _ _ _ _ (hAT _ (Or.inr (Or.inr ⟨by omega, by omega, trivial⟩))).symm ((hP.u (by omega) (Or.inr ⟨k, by rw [bnd_h _ (by omega)]; exact hk, rfl⟩)).r.mm (by omega))
set_option maxRecDepth 10000 in
theorem j_holds {l : Launch} {d m n : Nat} {R W Z : Nat → Nat → Int32} {T : Nat → Nat → Nat} {kn : Kn} {D : Nat → Int32} {A : Nat → Nat → Int32} {S : Nat → Int32} {x y : Int32} (hR : Rel m R W Z T kn n D A S) : Ct l M_F_holds (d + 60) 0 0 [.ref 0, .int x, .int y] n (co R W Z T kn (mo 88 D A S hN)) (JN m l M_Mo_holds (d + 60) [.ref 88, .int x, .int y]) := by
  obtain ⟨N, dy, tp, wt, Wc0, len0, V0, l0, Wc1, len1, V1, l1, hP⟩ := id hR
  obtain ⟨hS, hB1, hB2, hK, hT, hPr, hTr, hSh, hEr, hIm, fm, hfm, hfl⟩ := id hP
  obtain ⟨⟨hN8, d0, d1, dy9, hB0, hBD, hAT, hDF⟩, ⟨tp1, tp2, tp3, tp4⟩, ⟨wt1, wt2, wt3, wt4⟩, hQ0, hQ1⟩ := id hS
  have e0 : W 0 0 = nI N := (hAT.lo (by omega)).trans d0
  have hdy : W 0 1 = nI dy := (hAT.lo (by omega)).trans d1
  have hTS : TS D N := fun t ht => ⟨hBD.k0 (by omega), hBD.k2 (by omega), hBD.k3 (by omega)⟩
  have aT : ∀ i k, i < N → k < 7 → W 0 (50 + 7 * i + k) = D (50 + 7 * i + k) := fun i k hi hk => hAT.tr hi hk
  refine c_F_holds hT (fun hE => JN.of hT (fun Q2 q => ?_)) (fun a b ha hb hab ex ey => JN.of hT (fun Q2 q => ?_))
  · exact c_Mo_holds (fun _ => q _ _ _ _ _ _ _ _ _ rfl (hR.err.mm (by omega))) (fun a b ha hb hab ex ey => absurd hE (by rw [ex, ey, twoT ha hb hab]; decide))
  · subst ex ey
    refine c_Mo_holds (fun hE => absurd hE (by rw [twoT ha hb hab]; decide)) (fun a' b' ha' hb' hab' ex ey => ?_)
    obtain rfl := (nI_eq (by omega) (by omega)).mp ex
    obtain rfl := (nI_eq (by omega) (by omega)).mp ey
    rw [show 8 + 6 * a + b = 8 + (a * 6 + b) by omega]
    exact q _ _ _ _ _ _ _ _ _ (hAT _ (Or.inr (Or.inr ⟨by omega, by omega, trivial⟩))).symm (hR.mm (by omega))
set_option maxRecDepth 10000 in
theorem j_talk {l : Launch} {d m n : Nat} {R W Z : Nat → Nat → Int32} {T : Nat → Nat → Nat} {kn : Kn} {D : Nat → Int32} {A : Nat → Nat → Int32} {S : Nat → Int32} {x v : Int32} (hR : Rel m R W Z T kn n D A S) : Ct l M_F_talk (d + 60) 0 0 [.ref 0, .int x, .int v] n (co R W Z T kn (mo 88 D A S hN)) (JN m l M_Mo_talk (d + 60) [.ref 88, .int x, .int v]) := by
  obtain ⟨N, dy, tp, wt, Wc0, len0, V0, l0, Wc1, len1, V1, l1, hP⟩ := id hR
  obtain ⟨hS, hB1, hB2, hK, hT, hPr, hTr, hSh, hEr, hIm, fm, hfm, hfl⟩ := id hP
  obtain ⟨⟨hN8, d0, d1, dy9, hB0, hBD, hAT, hDF⟩, ⟨tp1, tp2, tp3, tp4⟩, ⟨wt1, wt2, wt3, wt4⟩, hQ0, hQ1⟩ := id hS
  have e0 : W 0 0 = nI N := (hAT.lo (by omega)).trans d0
  have hdy : W 0 1 = nI dy := (hAT.lo (by omega)).trans d1
  have hTS : TS D N := fun t ht => ⟨hBD.k0 (by omega), hBD.k2 (by omega), hBD.k3 (by omega)⟩
  have aT : ∀ i k, i < N → k < 7 → W 0 (50 + 7 * i + k) = D (50 + 7 * i + k) := fun i k hi hk => hAT.tr hi hk
  refine c_F_talk hT (fun hE => JN.of hT (fun Q2 q => ?_)) (fun a ha ex hv => JN.of hT (fun Q2 q => ?_))
  · exact c_Mo_talk (fun _ => q _ _ _ _ _ _ _ _ _ rfl (hR.err.mm (by omega))) (fun a ha ex hv => absurd hE (by rw [ex, hv, wiT ha (by decide)]; decide))
  · subst ex
    refine c_Mo_talk (fun hE => absurd hE (by rw [hv, wiT ha (by decide)]; decide)) (fun a' ha' ex hv' => ?_)
    obtain rfl := (nI_eq (by omega) (by omega)).mp ex
    obtain ⟨k, hk, rfl⟩ := wi_nat (k := 9) (by decide) hv
    exact q _ _ _ _ _ _ _ _ _ (hAT _ (Or.inr (Or.inl (by omega)))).symm ((hP.u (by omega) (Or.inr ⟨k, by rw [bnd_t _ (by omega)]; exact hk, rfl⟩)).r.mm (by omega))
set_option maxRecDepth 10000 in
theorem j_talkOf {l : Launch} {d m n : Nat} {R W Z : Nat → Nat → Int32} {T : Nat → Nat → Nat} {kn : Kn} {D : Nat → Int32} {A : Nat → Nat → Int32} {S : Nat → Int32} {x : Int32} (hR : Rel m R W Z T kn n D A S) : Ct l M_F_talkOf (d + 60) 0 0 [.ref 0, .int x] n (co R W Z T kn (mo 88 D A S hN)) (JN m l M_Mo_talkOf (d + 60) [.ref 88, .int x]) := by
  obtain ⟨N, dy, tp, wt, Wc0, len0, V0, l0, Wc1, len1, V1, l1, hP⟩ := id hR
  obtain ⟨hS, hB1, hB2, hK, hT, hPr, hTr, hSh, hEr, hIm, fm, hfm, hfl⟩ := id hP
  obtain ⟨⟨hN8, d0, d1, dy9, hB0, hBD, hAT, hDF⟩, ⟨tp1, tp2, tp3, tp4⟩, ⟨wt1, wt2, wt3, wt4⟩, hQ0, hQ1⟩ := id hS
  have e0 : W 0 0 = nI N := (hAT.lo (by omega)).trans d0
  have hdy : W 0 1 = nI dy := (hAT.lo (by omega)).trans d1
  have hTS : TS D N := fun t ht => ⟨hBD.k0 (by omega), hBD.k2 (by omega), hBD.k3 (by omega)⟩
  have aT : ∀ i k, i < N → k < 7 → W 0 (50 + 7 * i + k) = D (50 + 7 * i + k) := fun i k hi hk => hAT.tr hi hk
  refine c_F_talkOf hT (fun hE => JN.of hT (fun Q2 q => ?_)) (fun a ha ex => JN.of hT (fun Q2 q => ?_))
  · exact c_Mo_talkOf (fun _ => q _ _ _ _ _ _ _ _ _ rfl (hR.err.mm (by omega))) (fun a ha ex => absurd hE (by rw [ex, wiT ha (by decide)]; decide))
  · subst ex
    refine c_Mo_talkOf (fun hE => absurd hE (by rw [wiT ha (by decide)]; decide)) (fun a' ha' ex => ?_)
    obtain rfl := (nI_eq (by omega) (by omega)).mp ex
    exact q _ _ _ _ _ _ _ _ _ (hAT _ (Or.inr (Or.inl (by omega)))).symm (hR.mm (by omega))
set_option maxRecDepth 10000 in
theorem j_set {l : Launch} {d m n : Nat} {R W Z : Nat → Nat → Int32} {T : Nat → Nat → Nat} {kn : Kn} {D : Nat → Int32} {A : Nat → Nat → Int32} {S : Nat → Int32} {x v : Int32} (hR : Rel m R W Z T kn n D A S) : Ct l M_F_set (d + 60) 0 0 [.ref 0, .int x, .int v] n (co R W Z T kn (mo 88 D A S hN)) (JN m l M_Mo_set (d + 60) [.ref 88, .int x, .int v]) := by
  obtain ⟨N, dy, tp, wt, Wc0, len0, V0, l0, Wc1, len1, V1, l1, hP⟩ := id hR
  obtain ⟨hS, hB1, hB2, hK, hT, hPr, hTr, hSh, hEr, hIm, fm, hfm, hfl⟩ := id hP
  obtain ⟨⟨hN8, d0, d1, dy9, hB0, hBD, hAT, hDF⟩, ⟨tp1, tp2, tp3, tp4⟩, ⟨wt1, wt2, wt3, wt4⟩, hQ0, hQ1⟩ := id hS
  have e0 : W 0 0 = nI N := (hAT.lo (by omega)).trans d0
  have hdy : W 0 1 = nI dy := (hAT.lo (by omega)).trans d1
  have hTS : TS D N := fun t ht => ⟨hBD.k0 (by omega), hBD.k2 (by omega), hBD.k3 (by omega)⟩
  have aT : ∀ i k, i < N → k < 7 → W 0 (50 + 7 * i + k) = D (50 + 7 * i + k) := fun i k hi hk => hAT.tr hi hk
  refine c_F_set hT (fun hE => JN.of hT (fun Q2 q => ?_)) (fun a ha ex hv => JN.of hT (fun Q2 q => ?_))
  · exact c_Mo_set (fun _ => q _ _ _ _ _ _ _ _ _ rfl (hR.err.mm (by omega))) (fun a ha ex hv => absurd hE (by rw [hv, ex, wiT ha (by decide)]; decide))
  · refine c_Mo_set (fun hE => absurd hE (by rw [hv, ex, wiT ha (by decide)]; decide)) (fun a' ha' ex' hv' => ?_)
    have ea : a = a' := (nI_eq (by omega) (by omega)).mp (ex.symm.trans ex')
    subst ea
    have hb : ∃ k, k ≤ bnd (2 + a) ∧ v = nI k := by
      rw [ex] at hv
      rcases (show a = 0 ∨ a = 1 ∨ a = 2 by omega) with rfl | rfl | rfl
      · exact wi_nat (k := 15) (by decide) hv
      · exact wi_nat (k := 999) (by decide) hv
      · exact wi_nat (k := 99999) (by decide) hv
    exact q _ _ _ _ _ _ _ _ _ (hAT.lo (by omega)).symm ((hP.u (by omega) (Or.inr hb)).r.mm (by omega))
set_option maxRecDepth 10000 in
theorem j_seed {l : Launch} {d m n : Nat} {R W Z : Nat → Nat → Int32} {T : Nat → Nat → Nat} {kn : Kn} {D : Nat → Int32} {A : Nat → Nat → Int32} {S : Nat → Int32} {v : Int32} (hR : Rel m R W Z T kn n D A S) : Ct l M_F_seed (d + 60) 0 0 [.ref 0, .int v] n (co R W Z T kn (mo 88 D A S hN)) (JN m l M_Mo_seed (d + 60) [.ref 88, .int v]) := by
  obtain ⟨N, dy, tp, wt, Wc0, len0, V0, l0, Wc1, len1, V1, l1, hP⟩ := id hR
  obtain ⟨hS, hB1, hB2, hK, hT, hPr, hTr, hSh, hEr, hIm, fm, hfm, hfl⟩ := id hP
  obtain ⟨⟨hN8, d0, d1, dy9, hB0, hBD, hAT, hDF⟩, ⟨tp1, tp2, tp3, tp4⟩, ⟨wt1, wt2, wt3, wt4⟩, hQ0, hQ1⟩ := id hS
  have e0 : W 0 0 = nI N := (hAT.lo (by omega)).trans d0
  have hdy : W 0 1 = nI dy := (hAT.lo (by omega)).trans d1
  have hTS : TS D N := fun t ht => ⟨hBD.k0 (by omega), hBD.k2 (by omega), hBD.k3 (by omega)⟩
  have aT : ∀ i k, i < N → k < 7 → W 0 (50 + 7 * i + k) = D (50 + 7 * i + k) := fun i k hi hk => hAT.tr hi hk
  refine c_F_seed hT (JN.of hT (fun Q2 q => ?_))
  exact c_Mo_seed (q _ _ _ _ _ _ _ _ _ (hAT.lo (by omega)).symm ((hP.u (by omega) (Or.inl rfl)).r.mm (by omega)))
set_option maxRecDepth 10000 in
theorem j_told {l : Launch} {d m n : Nat} {R W Z : Nat → Nat → Int32} {T : Nat → Nat → Nat} {kn : Kn} {D : Nat → Int32} {A : Nat → Nat → Int32} {S : Nat → Int32} {x : Int32} (hR : Rel m R W Z T kn n D A S) : Ct l M_F_told (d + 60) 0 0 [.ref 0, .int x] n (co R W Z T kn (mo 88 D A S hN)) (JN m l M_Mo_told (d + 60) [.ref 88, .int x]) := by
  obtain ⟨N, dy, tp, wt, Wc0, len0, V0, l0, Wc1, len1, V1, l1, hP⟩ := id hR
  obtain ⟨hS, hB1, hB2, hK, hT, hPr, hTr, hSh, hEr, hIm, fm, hfm, hfl⟩ := id hP
  obtain ⟨⟨hN8, d0, d1, dy9, hB0, hBD, hAT, hDF⟩, ⟨tp1, tp2, tp3, tp4⟩, ⟨wt1, wt2, wt3, wt4⟩, hQ0, hQ1⟩ := id hS
  have e0 : W 0 0 = nI N := (hAT.lo (by omega)).trans d0
  have hdy : W 0 1 = nI dy := (hAT.lo (by omega)).trans d1
  have hTS : TS D N := fun t ht => ⟨hBD.k0 (by omega), hBD.k2 (by omega), hBD.k3 (by omega)⟩
  have aT : ∀ i k, i < N → k < 7 → W 0 (50 + 7 * i + k) = D (50 + 7 * i + k) := fun i k hi hk => hAT.tr hi hk
  refine c_F_told (fun hE => JN.of hT (fun Q2 q => ?_)) (fun i h1 h5 ex => JN.of hT (fun Q2 q => ?_))
  · exact c_Mo_told (fun _ => q _ _ _ _ _ _ _ _ _ rfl (hR.err.mm (by omega))) (fun i h1 h5 ex => absurd (by rw [ex]; exact ⟨nI_le h1 (by omega), nI_le h5 (by decide)⟩) hE)
  · refine c_Mo_told (fun hE => absurd hE (by rw [ex, wi1T h1 h5 (by decide)]; decide)) (fun i' _ _ ex' => ?_)
    have ea : i = i' := (nI_eq (by omega) (by omega)).mp (ex.symm.trans ex')
    subst ea
    exact q _ _ _ _ _ _ _ _ _ (hEr i h5).symm (hR.mm (by omega))
set_option maxRecDepth 10000 in
theorem j_trace {l : Launch} {d m n : Nat} {R W Z : Nat → Nat → Int32} {T : Nat → Nat → Nat} {kn : Kn} {D : Nat → Int32} {A : Nat → Nat → Int32} {S : Nat → Int32} {x : Int32} (hR : Rel m R W Z T kn n D A S) : Ct l M_F_trace (d + 60) 0 0 [.ref 0, .int x] n (co R W Z T kn (mo 88 D A S hN)) (JN m l M_Mo_trace (d + 60) [.ref 88, .int x]) := by
  obtain ⟨N, dy, tp, wt, Wc0, len0, V0, l0, Wc1, len1, V1, l1, hP⟩ := id hR
  obtain ⟨hS, hB1, hB2, hK, hT, hPr, hTr, hSh, hEr, hIm, fm, hfm, hfl⟩ := id hP
  obtain ⟨⟨hN8, d0, d1, dy9, hB0, hBD, hAT, hDF⟩, ⟨tp1, tp2, tp3, tp4⟩, ⟨wt1, wt2, wt3, wt4⟩, hQ0, hQ1⟩ := id hS
  have e0 : W 0 0 = nI N := (hAT.lo (by omega)).trans d0
  have hdy : W 0 1 = nI dy := (hAT.lo (by omega)).trans d1
  have hTS : TS D N := fun t ht => ⟨hBD.k0 (by omega), hBD.k2 (by omega), hBD.k3 (by omega)⟩
  have aT : ∀ i k, i < N → k < 7 → W 0 (50 + 7 * i + k) = D (50 + 7 * i + k) := fun i k hi hk => hAT.tr hi hk
  obtain ⟨tm, t1, t2, t3, t4⟩ := id hTr
  refine c_F_trace t1 t2 (fun hE => JN.of hT (fun Q2 q => ?_)) (fun hO => JN.of hT (fun Q2 q => ?_))
  · rw [wh_wi (by omega)] at hE
    exact c_Mo_trace t1 t3 (fun _ => q _ _ _ _ _ _ _ _ _ rfl (hR.err.mm (by omega))) (fun i hi ex => absurd hE (by rw [ex, wiN hi (by omega)]; decide))
  · obtain ⟨i, hi, rfl⟩ := wh_nat (by omega) hO
    refine c_Mo_trace t1 t3 (fun hE => absurd hE (by rw [wiN hi (by omega)]; decide)) (fun i' hi' ex' => ?_)
    obtain rfl := (nI_eq (by omega) (by omega)).mp ex'
    refine q _ _ _ _ _ _ _ _ _ ?_ (hR.mm (by omega))
    rw [rgt_in hi (by omega)]
    exact (t4 i hi).symm
set_option maxRecDepth 10000 in
theorem j_ofTree {l : Launch} {d m n : Nat} {R W Z : Nat → Nat → Int32} {T : Nat → Nat → Nat} {kn : Kn} {D : Nat → Int32} {A : Nat → Nat → Int32} {S : Nat → Int32} {x y : Int32} (hR : Rel m R W Z T kn n D A S) : Ct l M_F_ofTree (d + 60) 0 0 [.ref 0, .int x, .int y] n (co R W Z T kn (mo 88 D A S hN)) (JN m l M_Mo_ofTree (d + 60) [.ref 88, .int x, .int y]) := by
  obtain ⟨N, dy, tp, wt, Wc0, len0, V0, l0, Wc1, len1, V1, l1, hP⟩ := id hR
  obtain ⟨hS, hB1, hB2, hK, hT, hPr, hTr, hSh, hEr, hIm, fm, hfm, hfl⟩ := id hP
  obtain ⟨⟨hN8, d0, d1, dy9, hB0, hBD, hAT, hDF⟩, ⟨tp1, tp2, tp3, tp4⟩, ⟨wt1, wt2, wt3, wt4⟩, hQ0, hQ1⟩ := id hS
  have e0 : W 0 0 = nI N := (hAT.lo (by omega)).trans d0
  have hdy : W 0 1 = nI dy := (hAT.lo (by omega)).trans d1
  have hTS : TS D N := fun t ht => ⟨hBD.k0 (by omega), hBD.k2 (by omega), hBD.k3 (by omega)⟩
  have aT : ∀ i k, i < N → k < 7 → W 0 (50 + 7 * i + k) = D (50 + 7 * i + k) := fun i k hi hk => hAT.tr hi hk
  have hL : ∀ i w, i < N → w ≤ 7 → oft D i w = oft (W 0) i w := fun i w hi hw => by
    unfold oft
    rw [hAT.lim_ hi, hAT.rch_ hi, aT i 0 hi (by omega), aT i 1 hi (by omega), aT i 2 hi (by omega), aT i 3 hi (by omega)]
    by_cases h6 : w < 6
    · rw [aT i (w + 1) hi (by omega)]
    · rcases (show w = 6 ∨ w = 7 by omega) with rfl | rfl <;> rfl
  refine c_F_ofTree hN8 e0 hT hB0 hdy (by omega) (fun hE => JN.of hT (fun Q2 q => ?_)) (fun i w hi hw ex ey => JN.of hT (fun Q2 q => ?_))
  · exact c_Mo_ofTree hN8 d0 hTS (fun _ => q _ _ _ _ _ _ _ _ _ rfl (hR.err.mm (by omega))) (fun i w hi hw ex ey => absurd hE (by rw [ex, ey, wiN hi (by omega), wiT hw (by decide)]; decide))
  · subst ex ey
    refine c_Mo_ofTree hN8 d0 hTS (fun hE => absurd hE (by rw [wiN hi (by omega), wiT hw (by decide)]; decide)) (fun i' w' hi' hw' ex ey => ?_)
    obtain rfl := (nI_eq (by omega) (by omega)).mp ex
    obtain rfl := (nI_eq (by omega) (by omega)).mp ey
    exact q _ _ _ _ _ _ _ _ _ (hL i w hi hw) (hR.mm (by omega))
set_option maxRecDepth 10000 in
theorem j_change {l : Launch} {d m n : Nat} {R W Z : Nat → Nat → Int32} {T : Nat → Nat → Nat} {kn : Kn} {D : Nat → Int32} {A : Nat → Nat → Int32} {S : Nat → Int32} {x y v : Int32} (hR : Rel m R W Z T kn n D A S) : Ct l M_F_change (d + 60) 0 0 [.ref 0, .int x, .int y, .int v] n (co R W Z T kn (mo 88 D A S hN)) (JN m l M_Mo_change (d + 60) [.ref 88, .int x, .int y, .int v]) := by
  obtain ⟨N, dy, tp, wt, Wc0, len0, V0, l0, Wc1, len1, V1, l1, hP⟩ := id hR
  obtain ⟨hS, hB1, hB2, hK, hT, hPr, hTr, hSh, hEr, hIm, fm, hfm, hfl⟩ := id hP
  obtain ⟨⟨hN8, d0, d1, dy9, hB0, hBD, hAT, hDF⟩, ⟨tp1, tp2, tp3, tp4⟩, ⟨wt1, wt2, wt3, wt4⟩, hQ0, hQ1⟩ := id hS
  have e0 : W 0 0 = nI N := (hAT.lo (by omega)).trans d0
  have hdy : W 0 1 = nI dy := (hAT.lo (by omega)).trans d1
  have hTS : TS D N := fun t ht => ⟨hBD.k0 (by omega), hBD.k2 (by omega), hBD.k3 (by omega)⟩
  have aT : ∀ i k, i < N → k < 7 → W 0 (50 + 7 * i + k) = D (50 + 7 * i + k) := fun i k hi hk => hAT.tr hi hk
  refine c_F_change hN8 e0 hT hB0 (fun hE => JN.of hT (fun Q2 q => ?_)) (fun i w hi hw ex ey hv => JN.of hT (fun Q2 q => ?_))
  · exact c_Mo_change hN8 d0 (fun _ => q _ _ _ _ _ _ _ _ _ rfl (hR.err.mm (by omega))) (fun i w hi hw ex ey hv => absurd hE (by rw [hv, ex, ey, wiN hi (by omega), wiT hw (by decide)]; decide))
  · refine c_Mo_change hN8 d0 (fun hE => absurd hE (by rw [hv, ex, ey, wiN hi (by omega), wiT hw (by decide)]; decide)) (fun i' w' hi' hw' ex' ey' hv' => ?_)
    have ea : i = i' := (nI_eq (by omega) (by omega)).mp (ex.symm.trans ex')
    have eb : w = w' := (nI_eq (by omega) (by omega)).mp (ey.symm.trans ey')
    subst ea eb
    have hb : ∃ k, k ≤ bnd (50 + 7 * i + (4 + w)) ∧ v = nI k := by
      obtain ⟨-, -, -, -, b4, b5, b6⟩ := bnd_r i (by omega)
      rw [ey] at hv
      rcases (show w = 0 ∨ w = 1 ∨ w = 2 by omega) with rfl | rfl | rfl
      · show ∃ k, k ≤ bnd (50 + 7 * i + 4) ∧ v = nI k
        rw [b4]; exact wi_nat (k := 15) (by decide) hv
      · show ∃ k, k ≤ bnd (50 + 7 * i + 5) ∧ v = nI k
        rw [b5]; exact wi_nat (k := 99) (by decide) hv
      · show ∃ k, k ≤ bnd (50 + 7 * i + 6) ∧ v = nI k
        rw [b6]; exact wi_nat (k := 1) (by decide) hv
    exact q _ _ _ _ _ _ _ _ _ (aT i (4 + w) hi (by omega)).symm ((hP.u (by omega) (Or.inr hb)).r.mm (by omega))
set_option maxRecDepth 10000 in
theorem j_as {l : Launch} {d m n : Nat} {R W Z : Nat → Nat → Int32} {T : Nat → Nat → Nat} {kn : Kn} {D : Nat → Int32} {A : Nat → Nat → Int32} {S : Nat → Int32} {x y : Int32} (hR : Rel m R W Z T kn n D A S) : Ct l M_F_as (d + 60) 0 0 [.ref 0, .int x, .int y] n (co R W Z T kn (mo 88 D A S hN)) (JN m l M_Mo_as (d + 60) [.ref 88, .int x, .int y]) := by
  obtain ⟨N, dy, tp, wt, Wc0, len0, V0, l0, Wc1, len1, V1, l1, hP⟩ := id hR
  obtain ⟨hS, hB1, hB2, hK, hT, hPr, hTr, hSh, hEr, hIm, fm, hfm, hfl⟩ := id hP
  obtain ⟨⟨hN8, d0, d1, dy9, hB0, hBD, hAT, hDF⟩, ⟨tp1, tp2, tp3, tp4⟩, ⟨wt1, wt2, wt3, wt4⟩, hQ0, hQ1⟩ := id hS
  have e0 : W 0 0 = nI N := (hAT.lo (by omega)).trans d0
  have hdy : W 0 1 = nI dy := (hAT.lo (by omega)).trans d1
  have hTS : TS D N := fun t ht => ⟨hBD.k0 (by omega), hBD.k2 (by omega), hBD.k3 (by omega)⟩
  have aT : ∀ i k, i < N → k < 7 → W 0 (50 + 7 * i + k) = D (50 + 7 * i + k) := fun i k hi hk => hAT.tr hi hk
  refine c_F_as hN8 e0 hT hB0 (fun hE => JN.of hT (fun Q2 q => ?_)) (fun i k w hi ek hk hw ex ey hc => JN.of hT (fun Q2 q => ?_)) (fun i k w hi ek hk hw ex ey hc => JN.of hT (fun Q2 q => ?_))
  · exact c_Mo_as hN8 d0 hTS (fun _ => q _ _ _ _ _ _ _ _ _ rfl (hR.err.mm (by omega))) (fun i k w hi ek hk hw ex ey hc => absurd hE (by rw [ex, ey, wiN hi (by omega), wiT hw (by decide)]; decide)) (fun i k w hi ek hk hw ex ey hc => absurd hE (by rw [ex, ey, wiN hi (by omega), wiT hw (by decide)]; decide))
  · subst ex ey
    refine c_Mo_as hN8 d0 hTS (fun hE => absurd hE (by rw [wiN hi (by omega), wiT hw (by decide)]; decide)) (fun i' k' w' hi' ek' hk' hw' ex ey hc' => q _ _ _ _ _ _ _ _ _ rfl (hR.err.mm (by omega))) (fun i' k' w' hi' ek' hk' hw' ex ey hc' => ?_)
    obtain rfl := (nI_eq (by omega) (by omega)).mp ex
    obtain rfl := (nI_eq (by omega) (by omega)).mp ey
    rw [aT i 0 hi (by omega), ek'] at ek
    obtain rfl := (nI_eq (by omega) (by omega)).mp ek
    exact absurd hc' hc
  · subst ex ey
    refine c_Mo_as hN8 d0 hTS (fun hE => absurd hE (by rw [wiN hi (by omega), wiT hw (by decide)]; decide)) (fun i' k' w' hi' ek' hk' hw' ex ey hc' => ?_) (fun i' k' w' hi' ek' hk' hw' ex ey hc' => ?_)
    · obtain rfl := (nI_eq (by omega) (by omega)).mp ex
      obtain rfl := (nI_eq (by omega) (by omega)).mp ey
      rw [aT i 0 hi (by omega), ek'] at ek
      obtain rfl := (nI_eq (by omega) (by omega)).mp ek
      exact absurd hc hc'
    · obtain rfl := (nI_eq (by omega) (by omega)).mp ex
      exact q _ _ _ _ _ _ _ _ _ (aT i 1 hi (by omega)).symm (hR.mm (by omega))
