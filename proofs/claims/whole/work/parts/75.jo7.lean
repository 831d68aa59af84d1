set_option maxRecDepth 10000 in
theorem j_talked {l : Launch} {d m n : Nat} {R W Z : Nat → Nat → Int32} {T : Nat → Nat → Nat} {kn : Kn} {D : Nat → Int32} {A : Nat → Nat → Int32} {S : Nat → Int32} {x y : Int32} (hR : Rel m R W Z T kn n D A S) (hm : m < 2 ^ 25) : Ct l M_F_talked (d + 60) 9 13364 [.ref 0, .int x, .int y] n (co R W Z T kn (mo 88 D A S hN)) (JN m l M_Mo_talked (d + 60) [.ref 88, .int x, .int y]) := by
  obtain ⟨N, dy, tp, wt, Wc0, len0, V0, l0, Wc1, len1, V1, l1, hP⟩ := id hR
  obtain ⟨hS, hB1, hB2, hK, hT, hPr, hTr, hSh, hEr, hIm, fm, hfm, hfl⟩ := id hP
  obtain ⟨⟨hN8, d0, d1, dy9, hB0, hBD, hAT, hDF⟩, ⟨tp1, tp2, tp3, tp4⟩, ⟨wt1, wt2, wt3, wt4⟩, hQ0, hQ1⟩ := id hS
  have e0 : W 0 0 = nI N := (hAT.lo (by omega)).trans d0
  have hdy : W 0 1 = nI dy := (hAT.lo (by omega)).trans d1
  have hTS : TS D N := fun t ht => ⟨hBD.k0 (by omega), hBD.k2 (by omega), hBD.k3 (by omega)⟩
  have aT : ∀ i k, i < N → k < 7 → W 0 (50 + 7 * i + k) = D (50 + 7 * i + k) := fun i k hi hk => hAT.tr hi hk
  have eq : ∀ i k v, i ≤ 3 → tlI (A 13) (stb (dsD (tgv 0 V0 l0) (tgv 1 V1 l1) N k (tlD D v 6)).1 N) i N = stT (R (80 + 2 * i + 1)) (dsG (cvc Wc0 len0) (wvc Wc1 len1) N (fun i => (imP (W 0) N).getD i 0) (imP (W 0) N).length (tbI (W 0) (nI 63) (nI v) 6) k).1 N := fun i k v hi => by
    have t := hP.tieS (AG.tl (v := v) hAT) (fun j hj _ => tbI_x (by omega) 6 (Nat.le_refl _)) k
    have nb : ∀ j, j < N → NB (dsG (cvc Wc0 len0) (wvc Wc1 len1) N (fun i => (imP (W 0) N).getD i 0) (imP (W 0) N).length (tbI (W 0) (nI 63) (nI v) 6) k).1 (50 + 7 * j + 6) 1 := fun j hj => by
      unfold NB
      rw [(t.2.1 j hj).1]
      exact (t.2.1 j hj).2
    rw [Bool.eq_iff_iff, tlI_iff]
    unfold stT
    rw [decide_eq_true_iff]
    refine ⟨fun z j hj => ?_, fun z j hj => ?_⟩
    · rw [hSh.d hi (by omega), z j hj, t.1, stS_sh hN8 hj (nb j hj)]
    · rw [t.1, stS_sh hN8 hj (nb j hj), ← z j hj, hSh.d hi (by omega)]
  have tot : ∀ i k, i ≤ 3 → tlB (tgv 0 V0 l0) (tgv 1 V1 l1) N D k i (A 13) 10 = tdB (fun v => stT (R (80 + 2 * i + 1)) (dsG (cvc Wc0 len0) (wvc Wc1 len1) N (fun i => (imP (W 0) N).getD i 0) (imP (W 0) N).length (tbI (W 0) (nI 63) (nI v) 6) k).1 N) 10 := fun i k hi => (tlB_lA (fun v _ => eq i k v hi) 10 (Nat.le_refl _)).trans (lA_td _).1
  have con : ∀ i sz k, i ≤ 3 → (Z (80 + 2 * i) 2 = 0 ∨ sz ≠ N + 1 ∨ (sz = N + 1 ∧ wi (R (80 + 2 * i + 1) N) (nI 0) (nI 30) = false)) → Z (80 + 2 * i) 1 = nI sz → sz ≤ 40 → ¬ A 11 i = 0 → A 12 i = nI (N + 1) → A 13 (40 * i + N) = nI k → k ≤ 30 → False := fun i sz k hi h h1 h2 h3 h4 h5 h6 => by
    have es := hSh.s hi h1 h4 h2 (by omega)
    rcases h with h | h | h
    · rw [hSh.b hi] at h; exact h3 h
    · exact h es
    · have := h.2
      rw [hSh.d hi (by omega), h5, wiT h6 (by decide)] at this
      cases this
  have con' : ∀ i sz k, i ≤ 3 → (A 11 i = 0 ∨ sz ≠ N + 1 ∨ (sz = N + 1 ∧ wi (A 13 (40 * i + N)) (nI 0) (nI 30) = false)) → A 12 i = nI sz → sz ≤ 40 → ¬ Z (80 + 2 * i) 2 = 0 → Z (80 + 2 * i) 1 = nI (N + 1) → R (80 + 2 * i + 1) N = nI k → k ≤ 30 → False := fun i sz k hi h h1 h2 h3 h4 h5 h6 => by
    have es := hSh.s hi h4 h1 (by omega) h2
    rcases h with h | h | h
    · rw [hSh.b hi] at h3; exact h3 h
    · exact h es.symm
    · have := h.2
      rw [← hSh.d hi (by omega), h5, wiT h6 (by decide)] at this
      cases this
  refine c_F_talked hP.ci hN_mo hSh.sz (fun hE => JN.of hT (fun Q2 q => ?_)) (fun i z sz hi hz ex ey h1 h2 h3 => JN.of hT (fun Q2 q => ?_)) (fun i z k hi hz ex ey h1 h2 h3 h4 h5 h6 R1 W1 Z1 T1 kn1 n1 hJ hI => JN.of hI.2.2.2.2.2.2.2.2.1 (fun Q2 q => ?_)) (fun i z k hi hz ex ey h1 h2 h3 h4 h5 R1 W1 Z1 T1 kn1 n1 hJ hI => JN.of hI.2.2.2.2.2.2.2.2.1 (fun Q2 q => ?_))
  · exact c_Mo_talked hN8 hP.dw (by omega) hfm hSh.sA (fun _ => q _ _ _ _ _ _ _ _ _ rfl (hR.err.mm (by omega))) (fun i z _ hi hz ex ey _ _ _ => absurd hE (by rw [ex, ey, wiT hi (by decide), wiT hz (by decide)]; decide)) (fun i z _ hi hz ex ey _ _ _ _ _ _ _ _ _ _ => absurd hE (by rw [ex, ey, wiT hi (by decide), wiT hz (by decide)]; decide)) (fun i z _ hi hz ex ey _ _ _ _ _ _ _ _ _ => absurd hE (by rw [ex, ey, wiT hi (by decide), wiT hz (by decide)]; decide))
  · refine c_Mo_talked hN8 hP.dw (by omega) hfm hSh.sA (fun hE => absurd hE (by rw [ex, ey, wiT hi (by decide), wiT hz (by decide)]; decide)) (fun _ _ _ _ _ _ _ _ _ _ => q _ _ _ _ _ _ _ _ _ rfl (hR.err.mm (by omega))) (fun i' z' k' hi' hz' ex' ey' k1 k2 k3 k4 _ _ _ _ _ _ => ?_) (fun i' z' k' hi' hz' ex' ey' k1 k2 k3 k4 _ _ _ _ _ => ?_)
    · obtain rfl : i = i' := (nI_eq (by omega) (by omega)).mp (ex.symm.trans ex')
      exact (con i sz k' hi h3 h1 h2 k1 k2 k3 k4).elim
    · obtain rfl : i = i' := (nI_eq (by omega) (by omega)).mp (ex.symm.trans ex')
      exact (con i sz k' hi h3 h1 h2 k1 k2 k3 k4).elim
  · refine c_Mo_talked hN8 hP.dw (by omega) hfm hSh.sA (fun hE => absurd hE (by rw [ex, ey, wiT hi (by decide), wiT hz (by decide)]; decide)) (fun i' z' sz' hi' hz' ex' ey' k1 k2 k3 => ?_) (fun i' z' k' hi' hz' ex' ey' k1 k2 k3 k4 k5 k6 A1 f1 hA hf => ?_) (fun i' z' k' hi' hz' ex' ey' k1 k2 k3 k4 k5 A1 f1 hA hf => ?_)
    · obtain rfl : i = i' := (nI_eq (by omega) (by omega)).mp (ex.symm.trans ex')
      exact (con' i sz' k hi k3 k1 k2 h1 h2 h3 h4).elim
    · rw [← hA 3 (by decide) (by decide) (by decide) (by decide) (by decide) (by decide)]
      exact q _ _ _ _ _ _ _ _ _ rfl ((hP.th (m' := m + 40000) hJ hI hA (by omega)).r.err)
    · obtain rfl : i = i' := (nI_eq (by omega) (by omega)).mp (ex.symm.trans ex')
      obtain rfl : z = z' := (nI_eq (by omega) (by omega)).mp (ey.symm.trans ey')
      obtain rfl : k = k' := (nI_eq (by omega) (by omega)).mp (((hSh.d hi (by omega)).symm.trans h3).symm.trans k3)
      rw [tot i k hi] at k5
      exact absurd ((lA_td _).2.mpr h6) (k5.resolve_left (by omega))
  · refine c_Mo_talked hN8 hP.dw (by omega) hfm hSh.sA (fun hE => absurd hE (by rw [ex, ey, wiT hi (by decide), wiT hz (by decide)]; decide)) (fun i' z' sz' hi' hz' ex' ey' k1 k2 k3 => ?_) (fun i' z' k' hi' hz' ex' ey' k1 k2 k3 k4 k5 k6 A1 f1 hA hf => ?_) (fun i' z' k' hi' hz' ex' ey' k1 k2 k3 k4 k5 A1 f1 hA hf => ?_)
    · obtain rfl : i = i' := (nI_eq (by omega) (by omega)).mp (ex.symm.trans ex')
      exact (con' i sz' k hi k3 k1 k2 h1 h2 h3 h4).elim
    · obtain rfl : i = i' := (nI_eq (by omega) (by omega)).mp (ex.symm.trans ex')
      obtain rfl : z = z' := (nI_eq (by omega) (by omega)).mp (ey.symm.trans ey')
      obtain rfl : k = k' := (nI_eq (by omega) (by omega)).mp (((hSh.d hi (by omega)).symm.trans h3).symm.trans k3)
      rw [tot i k hi] at k6
      exact absurd ((lA_td _).2.mp k6) (h5.resolve_left (by omega))
    · obtain rfl : i = i' := (nI_eq (by omega) (by omega)).mp (ex.symm.trans ex')
      obtain rfl : z = z' := (nI_eq (by omega) (by omega)).mp (ey.symm.trans ey')
      obtain rfl : k = k' := (nI_eq (by omega) (by omega)).mp (((hSh.d hi (by omega)).symm.trans h3).symm.trans k3)
      rw [tot i k hi]
      exact q _ _ _ _ _ _ _ _ _ rfl ((hP.th (m' := m + 40000) hJ hI hA (by omega)).r)
set_option maxRecDepth 10000 in
theorem j_image {l : Launch} {d m n : Nat} {R W Z : Nat → Nat → Int32} {T : Nat → Nat → Nat} {kn : Kn} {D : Nat → Int32} {A : Nat → Nat → Int32} {S : Nat → Int32} (hR : Rel m R W Z T kn n D A S) : Ct l M_F_image (d + 60) 8 64 [.ref 0] n (co R W Z T kn (mo 88 D A S hN)) (JN m l M_Mo_image (d + 60) [.ref 88]) := by
  obtain ⟨N, dy, tp, wt, Wc0, len0, V0, l0, Wc1, len1, V1, l1, hP⟩ := id hR
  obtain ⟨hS, hB1, hB2, hK, hT, hPr, hTr, hSh, hEr, hIm, fm, hfm, hfl⟩ := id hP
  obtain ⟨⟨hN8, d0, d1, dy9, hB0, hBD, hAT, hDF⟩, ⟨tp1, tp2, tp3, tp4⟩, ⟨wt1, wt2, wt3, wt4⟩, hQ0, hQ1⟩ := id hS
  have e0 : W 0 0 = nI N := (hAT.lo (by omega)).trans d0
  have hdy : W 0 1 = nI dy := (hAT.lo (by omega)).trans d1
  have hTS : TS D N := fun t ht => ⟨hBD.k0 (by omega), hBD.k2 (by omega), hBD.k3 (by omega)⟩
  have aT : ∀ i k, i < N → k < 7 → W 0 (50 + 7 * i + k) = D (50 + 7 * i + k) := fun i k hi hk => hAT.tr hi hk
  refine c_F_image hT hB0 hB2 hN_mo tp1 tp2 wt1 wt2 hQ0.1.1 hQ0.2.1 hQ1.1.1 hQ1.2.1 (fun R1 Z1 T1 n1 hT1 hn r1 r73 r75 r77 r79 z72 z74 z76 z78 z0 z1 => JN.of hT1 (fun Q2 q => ?_))
  obtain ⟨i1, i2⟩ := id hIm
  have cp : ∀ j, j < 278 → cpN 278 D (A 1) j = D j := fun j hj => if_pos hj
  refine c_Mo_image (q _ _ _ _ _ _ _ _ _ (by rw [i1]) ?_)
  have rr : ∀ a, a < 73 ∨ 79 < a → R1 a = R a := fun a ha => r1 a (by omega) (by omega) (by omega) (by omega)
  have zz : ∀ b j, (0 < b ∧ b < 72) ∨ 78 < b → Z1 b j = Z b j := fun b j hb => z1 b j (by omega) (by omega) (by omega) (by omega) (by omega)
  have sn : SN (cpW (W 2) (W 0)) (cpN 278 D (A 1)) (Z1 72 1) (R1 73) (Z1 74 1) (R1 75) (Z1 76 1) (R1 77) (Z1 78 1) (R1 79) N dy tp wt Wc0 len0 V0 l0 Wc1 len1 V1 l1 := by
    refine ⟨⟨hN8, by rw [cp 0 (by omega)]; exact d0, by rw [cp 1 (by omega)]; exact d1, dy9, WB.cp hB2 hB0, fun j hj => ?_, fun j hj => ?_, hDF.k (fun i hi => ⟨if_pos (by omega), if_pos (by omega)⟩)⟩, ⟨tp1, z72, by rw [cp 6 (by omega)]; exact tp3, fun j hj => ?_⟩, ⟨wt1, z74, by rw [cp 7 (by omega)]; exact wt3, fun j hj => ?_⟩, ⟨hQ0.1, z76, fun k hk => by rw [r77 k hk]; exact hQ0.2.2.1 k hk, ⟨?_, fun k hk => ?_, hQ0.2.2.2.1.2.2.1, hQ0.2.2.2.1.2.2.2⟩, hQ0.2.2.2.2⟩, ⟨hQ1.1, z78, fun k hk => by rw [r79 k hk]; exact hQ1.2.2.1 k hk, ⟨?_, fun k hk => ?_, hQ1.2.2.2.1.2.2.1, hQ1.2.2.2.1.2.2.2⟩, hQ1.2.2.2.2⟩⟩
    · obtain ⟨c, c1, c2⟩ := hBD j hj
      exact ⟨c, c1, by rw [cp j (by omega)]; exact c2⟩
    · rw [cp j (by rcases hj with h | h | h <;> omega)]
      exact (AG.t hAT (AG.cp hN8)) j hj
    · rw [r73 j hj, cp _ (by omega)]; exact tp4 j hj
    · rw [r75 j hj, cp _ (by omega)]; exact wt4 j hj
    · rw [cp _ (by omega)]; exact hQ0.2.2.2.1.1
    · have := hQ0.2.2.2.1.2.2.2
      rw [cp _ (by omega)]; exact hQ0.2.2.2.1.2.1 k hk
    · rw [cp _ (by omega)]; exact hQ1.2.2.2.1.1
    · have := hQ1.2.2.2.1.2.2.2
      rw [cp _ (by omega)]; exact hQ1.2.2.2.1.2.1 k hk
  refine (RelP.r (N := N) (dy := dy) (tp := tp) (wt := wt) (Wc0 := Wc0) (len0 := len0) (V0 := V0) (l0 := l0) (Wc1 := Wc1) (len1 := len1) (V1 := V1) (l1 := l1) ⟨?_, ?_, ?_, hK, hT1, hPr.c (rr 23 (by omega)) (zz 22 1 (by omega)), hTr.c (rr 52 (by omega)) (zz 51 1 (by omega)) (uA_n (by decide)) (uS_n (by decide)), hSh.c (fun i hi => rr _ (by omega)) (fun i k hi => zz _ _ (by omega)) (uA_n (by decide)) (uA_n (by decide)) (uA_n (by decide)), hEr.c (rr 54 (by omega)) (uA_n (by decide)), ⟨by rw [z0, uS_s, i1], fun _ => ⟨N, dy, tp, wt, Wc0, len0, V0, l0, Wc1, len1, V1, l1, ?_⟩⟩, fm, by rw [uS_n (by decide)]; exact hfm, by omega⟩)
  · rw [uW_n (by decide), zz 1 1 (by omega), rr 2 (by omega), zz 49 1 (by omega), rr 50 (by omega), zz 4 1 (by omega), rr 5 (by omega), zz 10 1 (by omega), rr 11 (by omega)]; exact hS
  · rw [uW_n (by decide)]; exact hB1
  · rw [uW_s]; exact WB.cp hB2 hB0
  · rw [uW_s, uA_s]; exact sn
