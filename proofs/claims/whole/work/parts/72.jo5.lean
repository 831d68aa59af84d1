set_option maxRecDepth 10000 in
theorem j_days {l : Launch} {d m n : Nat} {R W Z : Nat → Nat → Int32} {T : Nat → Nat → Nat} {kn : Kn} {D : Nat → Int32} {A : Nat → Nat → Int32} {S : Nat → Int32} {x : Int32} (hR : Rel m R W Z T kn n D A S) (hm : m < 2 ^ 25) : Ct l M_F_days (d + 60) 1 13300 [.ref 0, .int x] n (co R W Z T kn (mo 88 D A S hN)) (JN m l M_Mo_days (d + 60) [.ref 88, .int x]) := by
  obtain ⟨N, dy, tp, wt, Wc0, len0, V0, l0, Wc1, len1, V1, l1, hP⟩ := id hR
  obtain ⟨hS, hB1, hB2, hK, hT, hPr, hTr, hSh, hEr, hIm, fm, hfm, hfl⟩ := id hP
  obtain ⟨⟨hN8, d0, d1, dy9, hB0, hBD, hAT, hDF⟩, ⟨tp1, tp2, tp3, tp4⟩, ⟨wt1, wt2, wt3, wt4⟩, hQ0, hQ1⟩ := id hS
  have e0 : W 0 0 = nI N := (hAT.lo (by omega)).trans d0
  have hdy : W 0 1 = nI dy := (hAT.lo (by omega)).trans d1
  have hTS : TS D N := fun t ht => ⟨hBD.k0 (by omega), hBD.k2 (by omega), hBD.k3 (by omega)⟩
  have aT : ∀ i k, i < N → k < 7 → W 0 (50 + 7 * i + k) = D (50 + 7 * i + k) := fun i k hi hk => hAT.tr hi hk
  refine c_F_days hN8 e0 ⟨hQ0.1, hQ0.2.1, hQ0.2.2.1⟩ ⟨hQ1.1, hQ1.2.1, hQ1.2.2.1⟩ hPr hT hK hB0 hdy dy9 (fun hE => JN.of hT (fun Q2 q => ?_)) (fun k h1 h6 ex h9 => JN.of hT (fun Q2 q => ?_)) (fun k h1 h6 ex h9 R1 W1 Z1 kn1 n1 hF eW hT1 hK1 => JN.of hT1 (fun Q2 q => ?_))
  · exact c_Mo_days hN8 hP.dw (by omega) hfm dy9 d1 (fun _ => q _ _ _ _ _ _ _ _ _ rfl (hR.err.mm (by omega))) (fun k h1 h6 ex h9 => absurd hE (by rw [ex, wi1T h1 h6 (by decide)]; decide)) (fun k h1 h6 ex h9 _ _ => absurd hE (by rw [ex, wi1T h1 h6 (by decide)]; decide))
  · refine c_Mo_days hN8 hP.dw (by omega) hfm dy9 d1 (fun hE => absurd hE (by rw [ex, wi1T h1 h6 (by decide)]; decide)) (fun _ _ _ _ _ => q _ _ _ _ _ _ _ _ _ rfl (hR.err.mm (by omega))) (fun k' h1' h6' ex' h9' _ _ => ?_)
    obtain rfl : k = k' := (nI_eq (by omega) (by omega)).mp (ex.symm.trans ex')
    omega
  · refine c_Mo_days hN8 hP.dw (by omega) hfm dy9 d1 (fun hE => absurd hE (by rw [ex, wi1T h1 h6 (by decide)]; decide)) (fun k' h1' h6' ex' h9' => ?_) (fun k' h1' h6' ex' h9' A1 hA => ?_)
    · obtain rfl : k = k' := (nI_eq (by omega) (by omega)).mp (ex.symm.trans ex')
      omega
    obtain rfl : k = k' := (nI_eq (by omega) (by omega)).mp (ex.symm.trans ex')
    have tie := hP.tieD k
    have g := dsG_i (cv := cvc Wc0 len0) (wv := wvc Wc1 len1) (D := W 0) hN8 hB0 ps0_lt k
    have hl := dsD_len (cv := tgv 0 V0 l0) (wv := tgv 1 V1 l1) hN8 (D := D) k
    refine q _ _ _ _ _ _ _ _ _ (by rw [tie.2]) ((hP.dz (dy' := dy + k) (m' := m + 40000) hF (by rw [eW]; exact g.1) (hBD.dd hN8 k) (by rw [eW]; exact tie.1) (by rw [eW]; exact hDF.k (fun i hi => ⟨dsG_tree ps0_lt (by omega) (by omega) k, dsG_tree ps0_lt (by omega) (by omega) k⟩)) (by rw [dsD_1, d1, nI_add]) h9 (fun j hj => dsD_x hN8 (by unfold kpt; omega) k) hT1 hK1 hA (by omega)).r)
set_option maxRecDepth 10000 in
theorem j_loose {l : Launch} {d m n : Nat} {R W Z : Nat → Nat → Int32} {T : Nat → Nat → Nat} {kn : Kn} {D : Nat → Int32} {A : Nat → Nat → Int32} {S : Nat → Int32} {x : Int32} (hR : Rel m R W Z T kn n D A S) (hm : m < 2 ^ 25) : Ct l M_F_loose (d + 60) 1 13300 [.ref 0, .int x] n (co R W Z T kn (mo 88 D A S hN)) (JN m l M_Mo_loose (d + 60) [.ref 88, .int x]) := by
  obtain ⟨N, dy, tp, wt, Wc0, len0, V0, l0, Wc1, len1, V1, l1, hP⟩ := id hR
  obtain ⟨hS, hB1, hB2, hK, hT, hPr, hTr, hSh, hEr, hIm, fm, hfm, hfl⟩ := id hP
  obtain ⟨⟨hN8, d0, d1, dy9, hB0, hBD, hAT, hDF⟩, ⟨tp1, tp2, tp3, tp4⟩, ⟨wt1, wt2, wt3, wt4⟩, hQ0, hQ1⟩ := id hS
  have e0 : W 0 0 = nI N := (hAT.lo (by omega)).trans d0
  have hdy : W 0 1 = nI dy := (hAT.lo (by omega)).trans d1
  have hTS : TS D N := fun t ht => ⟨hBD.k0 (by omega), hBD.k2 (by omega), hBD.k3 (by omega)⟩
  have aT : ∀ i k, i < N → k < 7 → W 0 (50 + 7 * i + k) = D (50 + 7 * i + k) := fun i k hi hk => hAT.tr hi hk
  refine c_F_loose hN8 e0 ⟨hQ0.1, hQ0.2.1, hQ0.2.2.1⟩ ⟨hQ1.1, hQ1.2.1, hQ1.2.2.1⟩ hPr hT hK hB0 hdy dy9 (fun hE => JN.of hT (fun Q2 q => ?_)) (fun k h1 h6 ex h9 => JN.of hT (fun Q2 q => ?_)) (fun k h1 h6 ex h9 R1 W1 Z1 kn1 n1 hF eW hT1 hK1 => JN.of hT1 (fun Q2 q => ?_))
  · exact c_Mo_loose hN8 hP.dw (by omega) hfm dy9 d1 (fun _ => q _ _ _ _ _ _ _ _ _ rfl (hR.err.mm (by omega))) (fun k h1 h6 ex h9 => absurd hE (by rw [ex, wi1T h1 h6 (by decide)]; decide)) (fun k h1 h6 ex h9 _ _ => absurd hE (by rw [ex, wi1T h1 h6 (by decide)]; decide))
  · refine c_Mo_loose hN8 hP.dw (by omega) hfm dy9 d1 (fun hE => absurd hE (by rw [ex, wi1T h1 h6 (by decide)]; decide)) (fun _ _ _ _ _ => q _ _ _ _ _ _ _ _ _ rfl (hR.err.mm (by omega))) (fun k' h1' h6' ex' h9' _ _ => ?_)
    obtain rfl : k = k' := (nI_eq (by omega) (by omega)).mp (ex.symm.trans ex')
    omega
  · refine c_Mo_loose hN8 hP.dw (by omega) hfm dy9 d1 (fun hE => absurd hE (by rw [ex, wi1T h1 h6 (by decide)]; decide)) (fun k' h1' h6' ex' h9' => ?_) (fun k' h1' h6' ex' h9' A1 hA => ?_)
    · obtain rfl : k = k' := (nI_eq (by omega) (by omega)).mp (ex.symm.trans ex')
      omega
    obtain rfl : k = k' := (nI_eq (by omega) (by omega)).mp (ex.symm.trans ex')
    have tie := sim_ls (cv := tgv 0 V0 l0) (wv := tgv 1 V1 l1) hN8 hBD hB0 hAT k
    rw [hP.cv, hP.wv] at eW
    have g := WB.ld (cv := tgv 0 V0 l0) (wv := tgv 1 V1 l1) hN8 hBD k
    have hl := lsD_len (cv := tgv 0 V0 l0) (wv := tgv 1 V1 l1) hN8 (D := D) k
    refine q _ _ _ _ _ _ _ _ _ (by rw [hP.cv, hP.wv, tie.2.1]) ((hP.dz (dy' := dy + k) (m' := m + 40000) hF (by rw [eW]; exact tie.2.2.1) g.1 (by rw [eW]; exact tie.1) (by rw [eW]; exact hDF.k (fun i hi => ⟨tie.2.2.2 _ (by omega) (by omega), tie.2.2.2 _ (by omega) (by omega)⟩)) (by rw [g.2.1, d1, nI_add]) h9 g.2.2 hT1 (by rw [hP.cv]; rw [hP.cv] at hK1; exact hK1) hA (by omega)).r)
set_option maxRecDepth 10000 in
theorem j_then {l : Launch} {d m n : Nat} {R W Z : Nat → Nat → Int32} {T : Nat → Nat → Nat} {kn : Kn} {D : Nat → Int32} {A : Nat → Nat → Int32} {S : Nat → Int32} {x y z : Int32} (hR : Rel m R W Z T kn n D A S) (hm : m < 2 ^ 25) : Ct l M_F_then (d + 60) 1 13300 [.ref 0, .int x, .int y, .int z] n (co R W Z T kn (mo 88 D A S hN)) (JN m l M_Mo_then (d + 60) [.ref 88, .int x, .int y, .int z]) := by
  obtain ⟨N, dy, tp, wt, Wc0, len0, V0, l0, Wc1, len1, V1, l1, hP⟩ := id hR
  obtain ⟨hS, hB1, hB2, hK, hT, hPr, hTr, hSh, hEr, hIm, fm, hfm, hfl⟩ := id hP
  obtain ⟨⟨hN8, d0, d1, dy9, hB0, hBD, hAT, hDF⟩, ⟨tp1, tp2, tp3, tp4⟩, ⟨wt1, wt2, wt3, wt4⟩, hQ0, hQ1⟩ := id hS
  have e0 : W 0 0 = nI N := (hAT.lo (by omega)).trans d0
  have hdy : W 0 1 = nI dy := (hAT.lo (by omega)).trans d1
  have hTS : TS D N := fun t ht => ⟨hBD.k0 (by omega), hBD.k2 (by omega), hBD.k3 (by omega)⟩
  have aT : ∀ i k, i < N → k < 7 → W 0 (50 + 7 * i + k) = D (50 + 7 * i + k) := fun i k hi hk => hAT.tr hi hk
  refine c_F_then ⟨hQ0.1, hQ0.2.1, hQ0.2.2.1⟩ hT hK hB0 hdy dy9 (fun hE => JN.of hT (fun Q2 q => ?_)) (fun k a b hk ha hb hab ex ey ez R1 kn1 n1 hR1 hT1 hK1 => JN.of hT1 (fun Q2 q => ?_))
  · exact c_Mo_then hN8 hP.dw (by omega) hfm (fun _ => q _ _ _ _ _ _ _ _ _ rfl (hR.err.mm (by omega))) (fun k a b hk ha hb hab ex ey ez _ _ _ _ => absurd hE (by rw [ex, ey, ez, wiT hk (by decide), twoT ha hb hab]; decide))
  · refine c_Mo_then hN8 hP.dw (by omega) hfm (fun hE => absurd hE (by rw [ex, ey, ez, wiT hk (by decide), twoT ha hb hab]; decide)) (fun k' a' b' hk' ha' hb' hab' ex' ey' ez' A1 f1 hA hf => ?_)
    obtain rfl : k = k' := (nI_eq (by omega) (by omega)).mp (ex.symm.trans ex')
    obtain rfl : a = a' := (nI_eq (by omega) (by omega)).mp (ey.symm.trans ey')
    obtain rfl : b = b' := (nI_eq (by omega) (by omega)).mp (ez.symm.trans ez')
    refine q _ _ _ _ _ _ _ _ _ ?_ ((hP.th (m' := m + 40000) ⟨fun q h8 _ _ => hR1 q h8, fun _ _ _ _ => rfl, fun _ _ => rfl⟩ ⟨hN8, e0, hdy, dy9, hB0, hB1, ⟨hQ0.1, hQ0.2.1, ?_⟩, ⟨hQ1.1, hQ1.2.1, ?_⟩, hT1, hK1⟩ hA (by omega)).r)
    · rw [dsD_th hN8 ha hb hab d1 dy9 k hk, hP.cv, hAT _ (Or.inr (Or.inl (by omega : 44 ≤ 44 + a ∧ 44 + a < 50 + 7 * N))), hAT _ (Or.inr (Or.inl (by omega : 44 ≤ 44 + b ∧ 44 + b < 50 + 7 * N))), hAT (8 + (a * 6 + b)) (Or.inr (Or.inr ⟨by omega, by omega, trivial⟩)), show 8 + (a * 6 + b) = 8 + 6 * a + b by omega]
    · intro k hk
      show R1 5 k = _
      rw [hR1 5 (by decide)]; exact hQ0.2.2.1 k hk
    · intro k hk
      show R1 11 k = _
      rw [hR1 11 (by decide)]; exact hQ1.2.2.1 k hk
set_option maxRecDepth 10000 in
theorem j_down {l : Launch} {d m n : Nat} {R W Z : Nat → Nat → Int32} {T : Nat → Nat → Nat} {kn : Kn} {D : Nat → Int32} {A : Nat → Nat → Int32} {S : Nat → Int32} {x : Int32} (hR : Rel m R W Z T kn n D A S) (hm : m < 2 ^ 25) : Ct l M_F_down (d + 60) 9 13364 [.ref 0, .int x] n (co R W Z T kn (mo 88 D A S hN)) (JN m l M_Mo_down (d + 60) [.ref 88, .int x]) := by
  obtain ⟨N, dy, tp, wt, Wc0, len0, V0, l0, Wc1, len1, V1, l1, hP⟩ := id hR
  obtain ⟨hS, hB1, hB2, hK, hT, hPr, hTr, hSh, hEr, hIm, fm, hfm, hfl⟩ := id hP
  obtain ⟨⟨hN8, d0, d1, dy9, hB0, hBD, hAT, hDF⟩, ⟨tp1, tp2, tp3, tp4⟩, ⟨wt1, wt2, wt3, wt4⟩, hQ0, hQ1⟩ := id hS
  have e0 : W 0 0 = nI N := (hAT.lo (by omega)).trans d0
  have hdy : W 0 1 = nI dy := (hAT.lo (by omega)).trans d1
  have hTS : TS D N := fun t ht => ⟨hBD.k0 (by omega), hBD.k2 (by omega), hBD.k3 (by omega)⟩
  have aT : ∀ i k, i < N → k < 7 → W 0 (50 + 7 * i + k) = D (50 + 7 * i + k) := fun i k hi hk => hAT.tr hi hk
  refine c_F_down hP.ci hN_mo (fun hE => JN.of hT (fun Q2 q => ?_)) (fun k hk ex R1 W1 Z1 T1 kn1 n1 hJ hI => JN.of hI.2.2.2.2.2.2.2.2.1 (fun Q2 q => ?_))
  · exact c_Mo_down hN8 hP.dw (by omega) hfm (fun _ => q _ _ _ _ _ _ _ _ _ rfl (hR.err.mm (by omega))) (fun k hk ex _ _ _ _ => absurd hE (by rw [ex, wiT hk (by decide)]; decide))
  · refine c_Mo_down hN8 hP.dw (by omega) hfm (fun hE => absurd hE (by rw [ex, wiT hk (by decide)]; decide)) (fun k' hk' ex' A1 f1 hA hf => ?_)
    obtain rfl : k = k' := (nI_eq (by omega) (by omega)).mp (ex.symm.trans ex')
    have tie := (hP.tie0 k).1
    refine q _ _ _ _ _ _ _ _ _ ?_ ((hP.th (m' := m + 40000) hJ hI hA (by omega)).r)
    have hb : WB (dsD (tgv 0 V0 l0) (tgv 1 V1 l1) N k D).1 := hBD.dd hN8 k
    rw [stb_S N (fun i hi => hb.k6 (by omega)), cpl N hN8 (fun i hi => hb.k6 (by omega)), tie.stS_]
set_option maxRecDepth 10000 in
theorem j_timber {l : Launch} {d m n : Nat} {R W Z : Nat → Nat → Int32} {T : Nat → Nat → Nat} {kn : Kn} {D : Nat → Int32} {A : Nat → Nat → Int32} {S : Nat → Int32} {x : Int32} (hR : Rel m R W Z T kn n D A S) (hm : m < 2 ^ 25) : Ct l M_F_timber (d + 60) 9 13364 [.ref 0, .int x] n (co R W Z T kn (mo 88 D A S hN)) (JN m l M_Mo_timber (d + 60) [.ref 88, .int x]) := by
  obtain ⟨N, dy, tp, wt, Wc0, len0, V0, l0, Wc1, len1, V1, l1, hP⟩ := id hR
  obtain ⟨hS, hB1, hB2, hK, hT, hPr, hTr, hSh, hEr, hIm, fm, hfm, hfl⟩ := id hP
  obtain ⟨⟨hN8, d0, d1, dy9, hB0, hBD, hAT, hDF⟩, ⟨tp1, tp2, tp3, tp4⟩, ⟨wt1, wt2, wt3, wt4⟩, hQ0, hQ1⟩ := id hS
  have e0 : W 0 0 = nI N := (hAT.lo (by omega)).trans d0
  have hdy : W 0 1 = nI dy := (hAT.lo (by omega)).trans d1
  have hTS : TS D N := fun t ht => ⟨hBD.k0 (by omega), hBD.k2 (by omega), hBD.k3 (by omega)⟩
  have aT : ∀ i k, i < N → k < 7 → W 0 (50 + 7 * i + k) = D (50 + 7 * i + k) := fun i k hi hk => hAT.tr hi hk
  refine c_F_timber hP.ci hN_mo (fun hE => JN.of hT (fun Q2 q => ?_)) (fun k hk ex R1 W1 Z1 T1 kn1 n1 hJ hI => JN.of hI.2.2.2.2.2.2.2.2.1 (fun Q2 q => ?_))
  · exact c_Mo_timber hN8 hP.dw (by omega) hfm (fun _ => q _ _ _ _ _ _ _ _ _ rfl (hR.err.mm (by omega))) (fun k hk ex _ _ _ _ => absurd hE (by rw [ex, wiT hk (by decide)]; decide))
  · refine c_Mo_timber hN8 hP.dw (by omega) hfm (fun hE => absurd hE (by rw [ex, wiT hk (by decide)]; decide)) (fun k' hk' ex' A1 f1 hA hf => ?_)
    obtain rfl : k = k' := (nI_eq (by omega) (by omega)).mp (ex.symm.trans ex')
    have tie := (hP.tie0 k).1
    refine q _ _ _ _ _ _ _ _ _ ?_ ((hP.th (m' := m + 40000) hJ hI hA (by omega)).r)
    rw [tie.lo (by omega), hAT.lo (by omega)]
set_option maxRecDepth 10000 in
theorem j_when {l : Launch} {d m n : Nat} {R W Z : Nat → Nat → Int32} {T : Nat → Nat → Nat} {kn : Kn} {D : Nat → Int32} {A : Nat → Nat → Int32} {S : Nat → Int32} {x : Int32} (hR : Rel m R W Z T kn n D A S) (hm : m < 2 ^ 25) : Ct l M_F_when (d + 60) 9 13364 [.ref 0, .int x] n (co R W Z T kn (mo 88 D A S hN)) (JN m l M_Mo_when (d + 60) [.ref 88, .int x]) := by
  obtain ⟨N, dy, tp, wt, Wc0, len0, V0, l0, Wc1, len1, V1, l1, hP⟩ := id hR
  obtain ⟨hS, hB1, hB2, hK, hT, hPr, hTr, hSh, hEr, hIm, fm, hfm, hfl⟩ := id hP
  obtain ⟨⟨hN8, d0, d1, dy9, hB0, hBD, hAT, hDF⟩, ⟨tp1, tp2, tp3, tp4⟩, ⟨wt1, wt2, wt3, wt4⟩, hQ0, hQ1⟩ := id hS
  have e0 : W 0 0 = nI N := (hAT.lo (by omega)).trans d0
  have hdy : W 0 1 = nI dy := (hAT.lo (by omega)).trans d1
  have hTS : TS D N := fun t ht => ⟨hBD.k0 (by omega), hBD.k2 (by omega), hBD.k3 (by omega)⟩
  have aT : ∀ i k, i < N → k < 7 → W 0 (50 + 7 * i + k) = D (50 + 7 * i + k) := fun i k hi hk => hAT.tr hi hk
  have st : ∀ i j, i < N → (dsG (cvc Wc0 len0) (wvc Wc1 len1) N (fun i => (imP (W 0) N).getD i 0) (imP (W 0) N).length (cpW (W 1) (W 0)) j).1 (50 + 7 * i + 6) = (dsD (tgv 0 V0 l0) (tgv 1 V1 l1) N j D).1 (50 + 7 * i + 6) := fun i j hi => (hP.tie0 j).1.tr hi (by omega)
  have b01 : ∀ i j, i < N → (dsD (tgv 0 V0 l0) (tgv 1 V1 l1) N j D).1 (50 + 7 * i + 6) = 0 ∨ (dsD (tgv 0 V0 l0) (tgv 1 V1 l1) N j D).1 (50 + 7 * i + 6) = nI 1 := fun i j hi => by
    obtain ⟨c, hc, ec⟩ := (WB.dd (cv := tgv 0 V0 l0) (wv := tgv 1 V1 l1) hN8 hBD j).k6 (show i < 8 by omega)
    rcases (show c = 0 ∨ c = 1 by omega) with rfl | rfl
    · left; rw [ec, nI_0]
    · right; exact ec
  refine c_F_when hP.ci hN_mo (fun hE => JN.of hT (fun Q2 q => ?_)) (fun i hi ex hs R1 W1 Z1 T1 kn1 n1 hJ hI => JN.of hI.2.2.2.2.2.2.2.2.1 (fun Q2 q => ?_)) (fun i u hi ex hu hs hz R1 W1 Z1 T1 kn1 n1 hJ hI => JN.of hI.2.2.2.2.2.2.2.2.1 (fun Q2 q => ?_))
  · exact c_Mo_when hN8 hP.dw (by omega) hfm (fun _ => q _ _ _ _ _ _ _ _ _ rfl (hR.err.mm (by omega))) (fun i _ hi ex _ _ _ _ _ _ _ _ => absurd hE (by rw [ex, wiN hi (by omega)]; decide)) (fun i _ hi ex _ _ _ _ _ _ _ => absurd hE (by rw [ex, wiN hi (by omega)]; decide))
  · refine c_Mo_when hN8 hP.dw (by omega) hfm (fun hE => absurd hE (by rw [ex, wiN hi (by omega)]; decide)) (fun i' u' hi' ex' hu' hs' h0' h1' A1 f1 hA hf => ?_) (fun i' u' hi' ex' hu' hs' hz' A1 f1 hA hf => ?_)
    · rw [← hA 3 (by decide) (by decide) (by decide) (by decide) (by decide) (by decide)]
      exact q _ _ _ _ _ _ _ _ _ rfl ((hP.th (m' := m + 40000) hJ hI hA (by omega)).r.err)
    · obtain rfl : i = i' := (nI_eq (by omega) (by omega)).mp (ex.symm.trans ex')
      have := hs u' hu'
      rw [st i u' hi, hz'] at this
      exact absurd this (by decide)
  · refine c_Mo_when hN8 hP.dw (by omega) hfm (fun hE => absurd hE (by rw [ex, wiN hi (by omega)]; decide)) (fun i' u' hi' ex' hu' hs' h0' h1' A1 f1 hA hf => ?_) (fun i' u' hi' ex' hu' hs' hz' A1 f1 hA hf => ?_)
    · obtain rfl : i = i' := (nI_eq (by omega) (by omega)).mp (ex.symm.trans ex')
      have e1 := (b01 i u' hi).resolve_left h0'
      have e60 : u' = 60 := h1'.resolve_right (fun z => z e1)
      rw [st i u hi] at hz
      by_cases z : u = u'
      · subst z; rw [e1] at hz; exact absurd hz (by decide)
      · have := hs' u (by omega)
        rw [hz] at this
        exact absurd this (by decide)
    · obtain rfl : i = i' := (nI_eq (by omega) (by omega)).mp (ex.symm.trans ex')
      rw [st i u hi] at hz
      have eu : u = u' := by
        by_cases a : u < u'
        · have := hs' u a
          rw [hz] at this
          exact absurd this (by decide)
        · by_cases b : u' < u
          · have := hs u' b
            rw [st i u' hi, hz'] at this
            exact absurd this (by decide)
          · omega
      subst eu
      exact q _ _ _ _ _ _ _ _ _ rfl ((hP.th (m' := m + 40000) hJ hI hA (by omega)).r)
set_option maxRecDepth 10000 in
theorem j_crash {l : Launch} {d m n : Nat} {R W Z : Nat → Nat → Int32} {T : Nat → Nat → Nat} {kn : Kn} {D : Nat → Int32} {A : Nat → Nat → Int32} {S : Nat → Int32} {x : Int32} (hR : Rel m R W Z T kn n D A S) (hm : m < 2 ^ 25) : Ct l M_F_crash (d + 60) 9 13364 [.ref 0, .int x] n (co R W Z T kn (mo 88 D A S hN)) (JN m l M_Mo_crash (d + 60) [.ref 88, .int x]) := by
  obtain ⟨N, dy, tp, wt, Wc0, len0, V0, l0, Wc1, len1, V1, l1, hP⟩ := id hR
  obtain ⟨hS, hB1, hB2, hK, hT, hPr, hTr, hSh, hEr, hIm, fm, hfm, hfl⟩ := id hP
  obtain ⟨⟨hN8, d0, d1, dy9, hB0, hBD, hAT, hDF⟩, ⟨tp1, tp2, tp3, tp4⟩, ⟨wt1, wt2, wt3, wt4⟩, hQ0, hQ1⟩ := id hS
  have e0 : W 0 0 = nI N := (hAT.lo (by omega)).trans d0
  have hdy : W 0 1 = nI dy := (hAT.lo (by omega)).trans d1
  have hTS : TS D N := fun t ht => ⟨hBD.k0 (by omega), hBD.k2 (by omega), hBD.k3 (by omega)⟩
  have aT : ∀ i k, i < N → k < 7 → W 0 (50 + 7 * i + k) = D (50 + 7 * i + k) := fun i k hi hk => hAT.tr hi hk
  have ef : ∀ i, i < N → (fl (wvc Wc1 len1) N 7 i (cpW (W 1) (W 0), [])).2 = (fl (tgv 1 V1 l1) N 7 i (D, [])).2 := fun i hi => by
    rw [hP.wv]
    exact (AG.fl_ (P := fun _ => True) 7 i (D, []) (cpW (W 1) (W 0), []) hi (AG.t hAT (AG.cp hN8)) rfl).2
  refine c_F_crash hP.ci hN_mo (fun hE => JN.of hT (fun Q2 q => ?_)) (fun i hi ex hz => JN.of hT (fun Q2 q => ?_)) (fun i hi ex hz R1 W1 Z1 T1 kn1 n1 hJ hI => JN.of hI.2.2.2.2.2.2.2.2.1 (fun Q2 q => ?_))
  · exact c_Mo_crash hN8 hP.dw (by omega) hfm (fun _ => q _ _ _ _ _ _ _ _ _ rfl (hR.err.mm (by omega))) (fun i hi ex _ => absurd hE (by rw [ex, wiN hi (by omega)]; decide)) (fun i hi ex _ _ _ _ _ => absurd hE (by rw [ex, wiN hi (by omega)]; decide))
  · rw [aT i 6 hi (by omega)] at hz
    refine c_Mo_crash hN8 hP.dw (by omega) hfm (fun hE => absurd hE (by rw [ex, wiN hi (by omega)]; decide)) (fun _ _ _ _ => q _ _ _ _ _ _ _ _ _ rfl (hR.mm (by omega))) (fun i' hi' ex' hz' A1 f1 hA hf => ?_)
    obtain rfl : i = i' := (nI_eq (by omega) (by omega)).mp (ex.symm.trans ex')
    rw [hz] at hz'
    exact absurd hz' (by decide)
  · rw [aT i 6 hi (by omega)] at hz
    refine c_Mo_crash hN8 hP.dw (by omega) hfm (fun hE => absurd hE (by rw [ex, wiN hi (by omega)]; decide)) (fun i' hi' ex' hz' => ?_) (fun i' hi' ex' hz' A1 f1 hA hf => ?_)
    · obtain rfl : i = i' := (nI_eq (by omega) (by omega)).mp (ex.symm.trans ex')
      rw [hz] at hz'
      exact absurd hz' (by decide)
    · obtain rfl : i = i' := (nI_eq (by omega) (by omega)).mp (ex.symm.trans ex')
      exact q _ _ _ _ _ _ _ _ _ (by rw [ef i hi]) ((hP.th (m' := m + 40000) hJ hI hA (by omega)).r)
