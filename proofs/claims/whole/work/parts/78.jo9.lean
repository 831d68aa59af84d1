set_option maxRecDepth 10000 in
theorem j_safe {l : Launch} {d m n : Nat} {R W Z : Nat → Nat → Int32} {T : Nat → Nat → Nat} {kn : Kn} {D : Nat → Int32} {A : Nat → Nat → Int32} {S : Nat → Int32} {x : Int32} (hR : Rel m R W Z T kn n D A S) (hm : m < 2 ^ 25) : Ct l M_F_safe (d + 60) 9 13364 [.ref 0, .int x] n (co R W Z T kn (mo 88 D A S hN)) (JN m l M_Mo_safe (d + 60) [.ref 88, .int x]) := by
  obtain ⟨N, dy, tp, wt, Wc0, len0, V0, l0, Wc1, len1, V1, l1, hP⟩ := id hR
  obtain ⟨hS, hB1, hB2, hK, hT, hPr, hTr, hSh, hEr, hIm, fm, hfm, hfl⟩ := id hP
  obtain ⟨⟨hN8, d0, d1, dy9, hB0, hBD, hAT, hDF⟩, ⟨tp1, tp2, tp3, tp4⟩, ⟨wt1, wt2, wt3, wt4⟩, hQ0, hQ1⟩ := id hS
  have e0 : W 0 0 = nI N := (hAT.lo (by omega)).trans d0
  have hdy : W 0 1 = nI dy := (hAT.lo (by omega)).trans d1
  have hTS : TS D N := fun t ht => ⟨hBD.k0 (by omega), hBD.k2 (by omega), hBD.k3 (by omega)⟩
  have aT : ∀ i k, i < N → k < 7 → W 0 (50 + 7 * i + k) = D (50 + 7 * i + k) := fun i k hi hk => hAT.tr hi hk
  have hpl : ∀ i, i < (imP (W 0) N).length → (fun i => (imP (W 0) N).getD i 0) i < 36 := fun i hi => ((imP_p hB0 hDF hN8 N (Nat.le_refl _)).2.1 _ (gd_mem hi)).2.1
  have hBc : WB (cpW (W 1) (W 0)) := WB.cp hB1 hB0
  obtain ⟨H, hH, eH⟩ := hBc.ha
  have e3 : W 0 3 = nI H := by rw [← eH]; exact (if_pos (by omega)).symm
  have key : ∀ k, k ≤ 60 → (sfB (tgv 0 V0 l0) (tgv 1 V1 l1) N D k 16).1 = (sdB (fun p => mi (W 0 3 + (dsH (cvc Wc0 len0) (wvc Wc1 len1) N (fun i => (imP (W 0) N).getD i 0) (imP (W 0) N).length (cpW (W 1) (W 0)) (fun _ => nI 0) k) p) (nI 999)) 16).1 := fun k hk => by
    have nx : ∀ p, p < 16 → _ := fun p hp => NX.days (cv := cvc Wc0 len0) (wv := wvc Wc1 len1) (p := p) (H := H) hN8 hp wvc_nat hpl hBc hH eH k
    have hd : ∀ p, p < 16 → (dsD (tgv 0 V0 l0) (tgv 1 V1 l1) N k (upd D 2 (nI p))).1 3 = (dsG (cvc Wc0 len0) (wvc Wc1 len1) N (fun i => (imP (W 0) N).getD i 0) (imP (W 0) N).length (upd (cpW (W 1) (W 0)) 2 (nI p)) k).1 3 := fun p hp => by
      have t := hP.tie (E := upd D 2 (nI p)) (F := upd (cpW (W 1) (W 0)) 2 (nI p)) (AG.w (AG.t hAT (AG.cp hN8)).u) (fun i hi => ⟨by rw [pk_un (by omega)]; exact if_pos (by omega), by rw [pk_un (by omega)]; exact if_pos (by omega), fun z => by rw [pk_un (by omega)] at z; rw [← z]; exact (if_pos (by omega)).symm⟩) k
      exact (t.1.lo (by omega)).symm
    have hc : ∀ p, p < 16 → ∃ a, a ≤ 999 ∧ (dsD (tgv 0 V0 l0) (tgv 1 V1 l1) N k (upd D 2 (nI p))).1 3 = nI a ∧ mi (W 0 3 + (dsH (cvc Wc0 len0) (wvc Wc1 len1) N (fun i => (imP (W 0) N).getD i 0) (imP (W 0) N).length (cpW (W 1) (W 0)) (fun _ => nI 0) k) p) (nI 999) = nI a := fun p hp => by
      obtain ⟨-, -, -, c, c1, c2, c3⟩ := nx p hp
      have cl := (dsG_i (cv := cvc Wc0 len0) (wv := wvc Wc1 len1) (D := cpW (W 1) (W 0)) hN8 hBc hpl k).2.2.2
      have c8 := cst_le (D := cpW (W 1) (W 0)) N
      refine ⟨min (H + c) 999, by omega, by rw [hd p hp]; exact c3, ?_⟩
      rw [c2, e3, nI_add]
      unfold mi
      by_cases g : 999 < H + c
      · rw [if_pos ((nI_ltI (by omega) (by omega)).mpr g), Nat.min_eq_right (by omega)]
      · rw [if_neg (fun z => g ((nI_ltI (by omega) (by omega)).mp z)), Nat.min_eq_left (by omega)]
    refine sf_sd (h := fun p => ((dsD (tgv 0 V0 l0) (tgv 1 V1 l1) N k (upd D 2 (nI p))).1 3).toNatClampNeg) (fun p hp => ?_) (fun p hp => ?_)
    · obtain ⟨a, a1, a2, a3⟩ := hc p hp
      rw [a2, icl (by omega)]
      exact ⟨rfl, a1⟩
    · obtain ⟨a, a1, a2, a3⟩ := hc p hp
      rw [a2, a3, icl (by omega)]
      exact ⟨rfl, a1⟩
  refine c_F_safe hP.ci hN_mo (fun hE => JN.of hT (fun Q2 q => ?_)) (fun k hk ex R1 W1 Z1 T1 kn1 n1 hJ hI => JN.of hI.2.2.2.2.2.2.2.2.1 (fun Q2 q => ?_))
  · exact c_Mo_safe hN8 hP.dw (by omega) hfm (fun _ => q _ _ _ _ _ _ _ _ _ rfl (hR.err.mm (by omega))) (fun k hk ex _ _ _ _ => absurd hE (by rw [ex, wiT hk (by decide)]; decide))
  · refine c_Mo_safe hN8 hP.dw (by omega) hfm (fun hE => absurd hE (by rw [ex, wiT hk (by decide)]; decide)) (fun k' hk' ex' A1 f1 hA hf => ?_)
    obtain rfl : k = k' := (nI_eq (by omega) (by omega)).mp (ex.symm.trans ex')
    rw [key k hk]
    exact q _ _ _ _ _ _ _ _ _ rfl ((hP.th (m' := m + 40000) hJ hI hA (by omega)).r)
