set_option maxRecDepth 10000 in
theorem j_gossip {l : Launch} {d m n : Nat} {R W Z : Nat → Nat → Int32} {T : Nat → Nat → Nat} {kn : Kn} {D : Nat → Int32} {A : Nat → Nat → Int32} {S : Nat → Int32} {x y : Int32} (hR : Rel m R W Z T kn n D A S) (hm : m < 2 ^ 25) : Ct l M_F_gossip (d + 60) 9 13364 [.ref 0, .int x, .int y] n (co R W Z T kn (mo 88 D A S hN)) (JN m l M_Mo_gossip (d + 60) [.ref 88, .int x, .int y]) := by
  obtain ⟨N, dy, tp, wt, Wc0, len0, V0, l0, Wc1, len1, V1, l1, hP⟩ := id hR
  obtain ⟨hS, hB1, hB2, hK, hT, hPr, hTr, hSh, hEr, hIm, fm, hfm, hfl⟩ := id hP
  obtain ⟨⟨hN8, d0, d1, dy9, hB0, hBD, hAT, hDF⟩, ⟨tp1, tp2, tp3, tp4⟩, ⟨wt1, wt2, wt3, wt4⟩, hQ0, hQ1⟩ := id hS
  have e0 : W 0 0 = nI N := (hAT.lo (by omega)).trans d0
  have hdy : W 0 1 = nI dy := (hAT.lo (by omega)).trans d1
  have hTS : TS D N := fun t ht => ⟨hBD.k0 (by omega), hBD.k2 (by omega), hBD.k3 (by omega)⟩
  have aT : ∀ i k, i < N → k < 7 → W 0 (50 + 7 * i + k) = D (50 + 7 * i + k) := fun i k hi hk => hAT.tr hi hk
  have eq : ∀ i k a b v, i < N → D (50 + 7 * i + 2) = nI a → D (50 + 7 * i + 3) = nI b → a ≤ 5 → b ≤ 5 → (gtst (tgv 0 V0 l0) (tgv 1 V1 l1) N D k i a b v ↔ (stS (dsG (cvc Wc0 len0) (wvc Wc1 len1) N (fun i => (imP (W 0) N).getD i 0) (imP (W 0) N).length (tbI (W 0) ((nI 1 <<< (W 0 (50 + 7 * i + 2) &&& 31)) ||| (nI 1 <<< (W 0 (50 + 7 * i + 3) &&& 31))) (nI v) 6) k).1 true N &&& (nI 1 <<< (nI i &&& 31))) = 0) := fun i k a b v hi ea eb ha hb => by
    rw [aT i 2 hi (by omega), aT i 3 hi (by omega), ea, eb]
    unfold gtst
    have t := (hP.tieS (hAT.gs (v := v) ha hb) (fun j hj _ => tbI_x (by omega) 6 (Nat.le_refl _)) k).1
    rw [t]
    obtain ⟨c, hc, ec⟩ := stS_256 (D := (dsG (cvc Wc0 len0) (wvc Wc1 len1) N (fun i => (imP (W 0) N).getD i 0) (imP (W 0) N).length (tbI (W 0) ((nI 1 <<< (nI a &&& 31)) ||| (nI 1 <<< (nI b &&& 31))) (nI v) 6) k).1) (b := true) hN8
    rw [ec]
    exact sb_0 i (by omega) c hc
  refine c_F_gossip hP.ci hN_mo (fun hE => JN.of hT (fun Q2 q => ?_)) (fun i k hi hk ex ey hno R1 W1 Z1 T1 kn1 n1 hJ hI => JN.of hI.2.2.2.2.2.2.2.2.1 (fun Q2 q => ?_)) (fun i k v hi hk ex ey hv hlo hz R1 W1 Z1 T1 kn1 n1 hJ hI => JN.of hI.2.2.2.2.2.2.2.2.1 (fun Q2 q => ?_))
  · exact c_Mo_gossip hN8 hP.dw (by omega) hfm (fun _ => q _ _ _ _ _ _ _ _ _ rfl (hR.err.mm (by omega))) (fun i k a b hi hk ex ey _ _ _ _ _ _ _ _ _ => absurd hE (by rw [ex, ey, wiN hi (by omega), wiT hk (by decide)]; decide)) (fun i k a b v hi hk ex ey _ _ _ _ _ _ _ _ _ _ _ => absurd hE (by rw [ex, ey, wiN hi (by omega), wiT hk (by decide)]; decide))
  · refine c_Mo_gossip hN8 hP.dw (by omega) hfm (fun hE => absurd hE (by rw [ex, ey, wiN hi (by omega), wiT hk (by decide)]; decide)) (fun i' k' a b hi' hk' ex' ey' ea eb ha hb hs A1 f1 hA hf => ?_) (fun i' k' a b v hi' hk' ex' ey' ea eb ha hb hv hs hz A1 f1 hA hf => ?_)
    · rw [← hA 3 (by decide) (by decide) (by decide) (by decide) (by decide) (by decide)]
      exact q _ _ _ _ _ _ _ _ _ rfl ((hP.th (m' := m + 40000) hJ hI hA (by omega)).r.err)
    · obtain rfl : i = i' := (nI_eq (by omega) (by omega)).mp (ex.symm.trans ex')
      obtain rfl : k = k' := (nI_eq (by omega) (by omega)).mp (ey.symm.trans ey')
      exact absurd ((eq i k a b v hi ea eb ha hb).mp hz) (hno v hv)
  · refine c_Mo_gossip hN8 hP.dw (by omega) hfm (fun hE => absurd hE (by rw [ex, ey, wiN hi (by omega), wiT hk (by decide)]; decide)) (fun i' k' a b hi' hk' ex' ey' ea eb ha hb hs A1 f1 hA hf => ?_) (fun i' k' a b v' hi' hk' ex' ey' ea eb ha hb hv' hs hz' A1 f1 hA hf => ?_)
    · obtain rfl : i = i' := (nI_eq (by omega) (by omega)).mp (ex.symm.trans ex')
      obtain rfl : k = k' := (nI_eq (by omega) (by omega)).mp (ey.symm.trans ey')
      exact absurd ((eq i k a b v hi ea eb ha hb).mpr hz) (hs v hv)
    · obtain rfl : i = i' := (nI_eq (by omega) (by omega)).mp (ex.symm.trans ex')
      obtain rfl : k = k' := (nI_eq (by omega) (by omega)).mp (ey.symm.trans ey')
      have ev : v = v' := by
        by_cases a1 : v < v'
        · exact absurd ((eq i k a b v hi ea eb ha hb).mpr hz) (hs v a1)
        · by_cases a2 : v' < v
          · exact absurd ((eq i k a b v' hi ea eb ha hb).mp hz') (hlo v' a2)
          · omega
      subst ev
      exact q _ _ _ _ _ _ _ _ _ rfl ((hP.th (m' := m + 40000) hJ hI hA (by omega)).r)
set_option maxRecDepth 10000 in
theorem j_about {l : Launch} {d m n : Nat} {R W Z : Nat → Nat → Int32} {T : Nat → Nat → Nat} {kn : Kn} {D : Nat → Int32} {A : Nat → Nat → Int32} {S : Nat → Int32} {x y : Int32} (hR : Rel m R W Z T kn n D A S) (hm : m < 2 ^ 25) : Ct l M_F_about (d + 60) 9 13364 [.ref 0, .int x, .int y] n (co R W Z T kn (mo 88 D A S hN)) (JN m l M_Mo_about (d + 60) [.ref 88, .int x, .int y]) := by
  obtain ⟨N, dy, tp, wt, Wc0, len0, V0, l0, Wc1, len1, V1, l1, hP⟩ := id hR
  obtain ⟨hS, hB1, hB2, hK, hT, hPr, hTr, hSh, hEr, hIm, fm, hfm, hfl⟩ := id hP
  obtain ⟨⟨hN8, d0, d1, dy9, hB0, hBD, hAT, hDF⟩, ⟨tp1, tp2, tp3, tp4⟩, ⟨wt1, wt2, wt3, wt4⟩, hQ0, hQ1⟩ := id hS
  have e0 : W 0 0 = nI N := (hAT.lo (by omega)).trans d0
  have hdy : W 0 1 = nI dy := (hAT.lo (by omega)).trans d1
  have hTS : TS D N := fun t ht => ⟨hBD.k0 (by omega), hBD.k2 (by omega), hBD.k3 (by omega)⟩
  have aT : ∀ i k, i < N → k < 7 → W 0 (50 + 7 * i + k) = D (50 + 7 * i + k) := fun i k hi hk => hAT.tr hi hk
  have ok : ∀ k u, u < 64 → ((stb (dsD (tgv 0 V0 l0) (tgv 1 V1 l1) N k (abD D u 6)).1 N &&& x) = 0 ↔ (stS (dsG (cvc Wc0 len0) (wvc Wc1 len1) N (fun i => (imP (W 0) N).getD i 0) (imP (W 0) N).length (tbI (W 0) (nI u) (nI 9) 6) k).1 true N &&& x) = 0) := fun k u _ => by
    rw [(hP.tieS (hAT.ab (st := u)) (fun j hj _ => tbI_x (by omega) 6 (Nat.le_refl _)) k).1]
  have m0 : (-1 : Int32) < 0 := by decide
  have p0 : ∀ v, v < 64 → ¬ nI v < 0 := fun v hv => Int32.not_lt.mpr (nI_pos' (by omega))
  refine c_F_about hP.ci hN_mo (fun hE => JN.of hT (fun Q2 q => ?_)) (fun k hk ey hx hno R1 W1 Z1 T1 kn1 n1 hJ hI => JN.of hI.2.2.2.2.2.2.2.2.1 (fun Q2 q => ?_)) (fun k z v hk ey hx hv hz6 ez hlt hle hz R1 W1 Z1 T1 kn1 n1 hJ hI => JN.of hI.2.2.2.2.2.2.2.2.1 (fun Q2 q => ?_))
  · exact c_Mo_about hN8 hP.dw (by omega) hfm (fun _ => q _ _ _ _ _ _ _ _ _ rfl (hR.err.mm (by omega))) (fun k hk ey hx _ _ _ _ _ => absurd hE (by rw [ey, hx, wiT hk (by decide)]; decide)) (fun k hk ey hx _ _ _ _ _ => absurd hE (by rw [ey, hx, wiT hk (by decide)]; decide))
  · refine c_Mo_about hN8 hP.dw (by omega) hfm (fun hE => absurd hE (by rw [ey, hx, wiT hk (by decide)]; decide)) (fun k' hk' ey' _ hs A1 f1 hA hf => ?_) (fun k' hk' ey' _ hs A1 f1 hA hf => ?_)
    · rw [← hA 3 (by decide) (by decide) (by decide) (by decide) (by decide) (by decide)]
      exact q _ _ _ _ _ _ _ _ _ rfl ((hP.th (m' := m + 40000) hJ hI hA (by omega)).r.err)
    · obtain rfl : k = k' := (nI_eq (by omega) (by omega)).mp (ey.symm.trans ey')
      rcases abB_spec (ok k) 64 (Nat.le_refl _) with ⟨e, h⟩ | ⟨v, hv, e, h1, h2⟩
      · rw [e] at hs
        exact absurd m0 hs
      · exact absurd h1 (hno v hv (by rw [(pc_e v hv).2.2]; exact nI_le (pc_e v hv).1 (by decide)))
  · refine c_Mo_about hN8 hP.dw (by omega) hfm (fun hE => absurd hE (by rw [ey, hx, wiT hk (by decide)]; decide)) (fun k' hk' ey' _ hs A1 f1 hA hf => ?_) (fun k' hk' ey' _ hs A1 f1 hA hf => ?_)
    · obtain rfl : k = k' := (nI_eq (by omega) (by omega)).mp (ey.symm.trans ey')
      rcases abB_spec (ok k) 64 (Nat.le_refl _) with ⟨e, h⟩ | ⟨v', hv', e, h1, h2⟩
      · exact absurd hz (h v hv)
      · rw [e] at hs
        exact absurd hs (p0 v' hv')
    · obtain rfl : k = k' := (nI_eq (by omega) (by omega)).mp (ey.symm.trans ey')
      rcases abB_spec (ok k) 64 (Nat.le_refl _) with ⟨e, h⟩ | ⟨v', hv', e, h1, h2⟩
      · exact absurd hz (h v hv)
      · have pv := pc_e v hv
        have pv' := pc_e v' hv'
        have e1 : pc v = z := (nI_eq (by omega) (by omega)).mp (pv.2.2.symm.trans ez)
        have ge : z ≤ pc v' := by
          by_cases c : pc v' < z
          · exact absurd h1 (hlt (pc v') v' c hv' pv'.2.2)
          · omega
        have hm2 := h2 v hv hz
        have ep : pc v' = z := by omega
        have ev : v = v' := by
          by_cases a1 : v' < v
          · exact absurd h1 (hle v' a1 (by rw [pv'.2.2, ep]))
          · omega
        subst ev
        rw [e]
        exact q _ _ _ _ _ _ _ _ _ rfl ((hP.th (m' := m + 40000) hJ hI hA (by omega)).r)
set_option maxRecDepth 10000 in
theorem j_keeper {l : Launch} {d m n : Nat} {R W Z : Nat → Nat → Int32} {T : Nat → Nat → Nat} {kn : Kn} {D : Nat → Int32} {A : Nat → Nat → Int32} {S : Nat → Int32} {x y : Int32} (hR : Rel m R W Z T kn n D A S) (hm : m < 2 ^ 25) : Ct l M_F_keeper (d + 60) 9 13364 [.ref 0, .int x, .int y] n (co R W Z T kn (mo 88 D A S hN)) (JN m l M_Mo_keeper (d + 60) [.ref 88, .int x, .int y]) := by
  obtain ⟨N, dy, tp, wt, Wc0, len0, V0, l0, Wc1, len1, V1, l1, hP⟩ := id hR
  obtain ⟨hS, hB1, hB2, hK, hT, hPr, hTr, hSh, hEr, hIm, fm, hfm, hfl⟩ := id hP
  obtain ⟨⟨hN8, d0, d1, dy9, hB0, hBD, hAT, hDF⟩, ⟨tp1, tp2, tp3, tp4⟩, ⟨wt1, wt2, wt3, wt4⟩, hQ0, hQ1⟩ := id hS
  have e0 : W 0 0 = nI N := (hAT.lo (by omega)).trans d0
  have hdy : W 0 1 = nI dy := (hAT.lo (by omega)).trans d1
  have hTS : TS D N := fun t ht => ⟨hBD.k0 (by omega), hBD.k2 (by omega), hBD.k3 (by omega)⟩
  have aT : ∀ i k, i < N → k < 7 → W 0 (50 + 7 * i + k) = D (50 + 7 * i + k) := fun i k hi hk => hAT.tr hi hk
  have kx : ∀ p, p < 6 → ∀ j, 50 ≤ j → j < 106 → kpD (W 0) p 6 j = W 0 j := fun p hp j hj _ => kpD_x hp (by omega) 6 (Nat.le_refl _)
  have eq : ∀ k, kpB (tgv 0 V0 l0) (tgv 1 V1 l1) N D k 6 = kcB (fun p => bcv (stS (dsG (cvc Wc0 len0) (wvc Wc1 len1) N (fun i => (imP (W 0) N).getD i 0) (imP (W 0) N).length (kpD (W 0) p 6) k).1 true N)) 6 := fun k => kpB_c (fun p hp => by
    rw [(hP.tieS (AG.kp hAT 6) (kx p hp) k).1, stS_bt hN8]) 6 (Nat.le_refl _)
  refine c_F_keeper hP.ci hN_mo (fun hE => JN.of hT (fun Q2 q => ?_)) (fun k w hk hw ex ey R1 W1 Z1 T1 kn1 n1 hJ hI => JN.of hI.2.2.2.2.2.2.2.2.1 (fun Q2 q => ?_))
  · exact c_Mo_keeper hN8 hP.dw (by omega) hfm (fun _ => q _ _ _ _ _ _ _ _ _ rfl (hR.err.mm (by omega))) (fun k w hk hw ex ey _ _ _ _ => absurd hE (by rw [ex, ey, wiT hk (by decide), wiT hw (by decide)]; decide))
  · refine c_Mo_keeper hN8 hP.dw (by omega) hfm (fun hE => absurd hE (by rw [ex, ey, wiT hk (by decide), wiT hw (by decide)]; decide)) (fun k' w' hk' hw' ex' ey' A1 f1 hA hf => ?_)
    obtain rfl : k = k' := (nI_eq (by omega) (by omega)).mp (ex.symm.trans ex')
    obtain rfl : w = w' := (nI_eq (by omega) (by omega)).mp (ey.symm.trans ey')
    rw [eq k]
    exact q _ _ _ _ _ _ _ _ _ rfl ((hP.th (m' := m + 40000) hJ hI hA (by omega)).r)
set_option maxRecDepth 10000 in
theorem j_order {l : Launch} {d m n : Nat} {R W Z : Nat → Nat → Int32} {T : Nat → Nat → Nat} {kn : Kn} {D : Nat → Int32} {A : Nat → Nat → Int32} {S : Nat → Int32} {x : Int32} (hR : Rel m R W Z T kn n D A S) (hm : m < 2 ^ 25) : Ct l M_F_order (d + 60) 9 13364 [.ref 0, .int x] n (co R W Z T kn (mo 88 D A S hN)) (JN m l M_Mo_order (d + 60) [.ref 88, .int x]) := by
  obtain ⟨N, dy, tp, wt, Wc0, len0, V0, l0, Wc1, len1, V1, l1, hP⟩ := id hR
  obtain ⟨hS, hB1, hB2, hK, hT, hPr, hTr, hSh, hEr, hIm, fm, hfm, hfl⟩ := id hP
  obtain ⟨⟨hN8, d0, d1, dy9, hB0, hBD, hAT, hDF⟩, ⟨tp1, tp2, tp3, tp4⟩, ⟨wt1, wt2, wt3, wt4⟩, hQ0, hQ1⟩ := id hS
  have e0 : W 0 0 = nI N := (hAT.lo (by omega)).trans d0
  have hdy : W 0 1 = nI dy := (hAT.lo (by omega)).trans d1
  have hTS : TS D N := fun t ht => ⟨hBD.k0 (by omega), hBD.k2 (by omega), hBD.k3 (by omega)⟩
  have aT : ∀ i k, i < N → k < 7 → W 0 (50 + 7 * i + k) = D (50 + 7 * i + k) := fun i k hi hk => hAT.tr hi hk
  have t := (hP.tieS hAT (fun _ _ _ => rfl) 60).2.2
  refine c_F_order hP.ci hN_mo hSh.sz (fun hE => JN.of hT (fun Q2 q => ?_)) (fun i hi ex h1 => JN.of hT (fun Q2 q => ?_)) (fun i sz k hi ex h1 h2 h3 h4 h5 h6 h7 R1 W1 Z1 T1 kn1 n1 hJ hI => JN.of hI.2.2.2.2.2.2.2.2.1 (fun Q2 q => ?_))
  · exact c_Mo_order hN8 hP.dw (by omega) hfm hSh.sA (fun _ => q _ _ _ _ _ _ _ _ _ rfl (hR.err.mm (by omega))) (fun i hi ex _ => absurd hE (by rw [ex, wiT hi (by decide)]; decide)) (fun i _ _ hi ex _ _ _ _ _ _ _ _ _ _ _ => absurd hE (by rw [ex, wiT hi (by decide)]; decide))
  · rw [hSh.b hi] at h1
    refine c_Mo_order hN8 hP.dw (by omega) hfm hSh.sA (fun hE => absurd hE (by rw [ex, wiT hi (by decide)]; decide)) (fun _ _ _ _ => q _ _ _ _ _ _ _ _ _ rfl (hR.err.mm (by omega))) (fun i' _ _ hi' ex' h _ _ _ _ _ _ _ _ _ _ => ?_)
    obtain rfl : i = i' := (nI_eq (by omega) (by omega)).mp (ex.symm.trans ex')
    exact absurd h1 h
  · rw [hSh.b hi] at h1
    rw [t] at h5 h6 h7
    refine c_Mo_order hN8 hP.dw (by omega) hfm hSh.sA (fun hE => absurd hE (by rw [ex, wiT hi (by decide)]; decide)) (fun i' hi' ex' h => ?_) (fun i' s' k' hi' ex' k1 k2 k3 k4 k5 k6 k7 A1 f1 hA hf => ?_)
    · obtain rfl : i = i' := (nI_eq (by omega) (by omega)).mp (ex.symm.trans ex')
      exact absurd h h1
    · obtain rfl : i = i' := (nI_eq (by omega) (by omega)).mp (ex.symm.trans ex')
      obtain rfl := hSh.s hi h2 k2 h3 k3
      have ek : k = k' := fst_uniq (p := fun u => A 13 (40 * i + u) = nI ((dsD (tgv 0 V0 l0) (tgv 1 V1 l1) N 60 D).2.getD u 0)) h4 h5 (fun u hu => by rw [← hSh.d hi (by omega)]; exact h6 u hu) (h7.imp id (Or.imp id (fun z => ⟨z.1, z.2.1, by rw [← hSh.d hi (by omega)]; exact z.2.2⟩))) k4 k5 k6 k7
      subst ek
      exact q _ _ _ _ _ _ _ _ _ rfl ((hP.th (m' := m + 40000) hJ hI hA (by omega)).r)
set_option maxRecDepth 10000 in
theorem j_odds {l : Launch} {d m n : Nat} {R W Z : Nat → Nat → Int32} {T : Nat → Nat → Nat} {kn : Kn} {D : Nat → Int32} {A : Nat → Nat → Int32} {S : Nat → Int32} {x y z : Int32} (hR : Rel m R W Z T kn n D A S) (hm : m < 2 ^ 25) : Ct l M_F_odds (d + 60) 9 13364 [.ref 0, .int x, .int y, .int z] n (co R W Z T kn (mo 88 D A S hN)) (JN m l M_Mo_odds (d + 60) [.ref 88, .int x, .int y, .int z]) := by
  obtain ⟨N, dy, tp, wt, Wc0, len0, V0, l0, Wc1, len1, V1, l1, hP⟩ := id hR
  obtain ⟨hS, hB1, hB2, hK, hT, hPr, hTr, hSh, hEr, hIm, fm, hfm, hfl⟩ := id hP
  obtain ⟨⟨hN8, d0, d1, dy9, hB0, hBD, hAT, hDF⟩, ⟨tp1, tp2, tp3, tp4⟩, ⟨wt1, wt2, wt3, wt4⟩, hQ0, hQ1⟩ := id hS
  have e0 : W 0 0 = nI N := (hAT.lo (by omega)).trans d0
  have hdy : W 0 1 = nI dy := (hAT.lo (by omega)).trans d1
  have hTS : TS D N := fun t ht => ⟨hBD.k0 (by omega), hBD.k2 (by omega), hBD.k3 (by omega)⟩
  have aT : ∀ i k, i < N → k < 7 → W 0 (50 + 7 * i + k) = D (50 + 7 * i + k) := fun i k hi hk => hAT.tr hi hk
  have oB : ∀ i k a b, i < N → a ≤ 5 → b ≤ 5 → D (50 + 7 * i + 2) = nI a → D (50 + 7 * i + 3) = nI b → odB (tgv 0 V0 l0) (tgv 1 V1 l1) N D k i a b 10 = nI (ocB (fun v => decide (¬ (dsG (cvc Wc0 len0) (wvc Wc1 len1) N (fun i => (imP (W 0) N).getD i 0) (imP (W 0) N).length (odW (W 0) (tN (W 0) (50 + 7 * i + 2)) (tN (W 0) (50 + 7 * i + 3)) v) k).1 (50 + 7 * i + 6) = nI 1)) 10) ∧ ocB (fun v => decide (¬ (dsG (cvc Wc0 len0) (wvc Wc1 len1) N (fun i => (imP (W 0) N).getD i 0) (imP (W 0) N).length (odW (W 0) (tN (W 0) (50 + 7 * i + 2)) (tN (W 0) (50 + 7 * i + 3)) v) k).1 (50 + 7 * i + 6) = nI 1)) 10 ≤ 10 := fun i k a b hi ha hb ea eb => by
    have e2 : tN (W 0) (50 + 7 * i + 2) = a := by unfold tN; rw [aT i 2 hi (by omega), ea, icl (by omega)]
    have e3 : tN (W 0) (50 + 7 * i + 3) = b := by unfold tN; rw [aT i 3 hi (by omega), eb, icl (by omega)]
    rw [e2, e3]
    refine odB_c (fun v hv => ?_) 10 (Nat.le_refl _)
    have t := hP.tieS (AG.od (a := a) (b := b) (v := v) hAT) (fun j hj _ => by unfold odW; rw [pk_un (by omega), pk_un (by omega)]) k
    rw [odD_W, t.1, stS_sh hN8 hi (by unfold NB; rw [(t.2.1 i hi).1]; exact (t.2.1 i hi).2)]
    have nb := (t.2.1 i hi).2
    unfold NB at nb
    rw [← (t.2.1 i hi).1] at nb
    obtain ⟨c, hc, ec⟩ := nb
    rcases (show c = 0 ∨ c = 1 by omega) with rfl | rfl
    · rw [ec, if_pos (decide_eq_true (by decide))]
    · rw [ec, if_neg (by decide)]
  refine c_F_odds hP.ci hN_mo (fun hE => JN.of hT (fun Q2 q => ?_)) (fun i k w r hi hk hw ex ey ez hr hc R1 W1 Z1 T1 kn1 n1 hJ hI => JN.of hI.2.2.2.2.2.2.2.2.1 (fun Q2 q => ?_))
  · exact c_Mo_odds hN8 hP.dw (by omega) hfm (fun _ => q _ _ _ _ _ _ _ _ _ rfl (hR.err.mm (by omega))) (fun i k w _ _ _ hi hk hw ex ey ez _ _ _ _ _ _ _ _ _ _ => absurd hE (by rw [ex, ey, ez, wiN hi (by omega), wiT hk (by decide), wiT hw (by decide)]; decide))
  · refine c_Mo_odds hN8 hP.dw (by omega) hfm (fun hE => absurd hE (by rw [ex, ey, ez, wiN hi (by omega), wiT hk (by decide), wiT hw (by decide)]; decide)) (fun i' k' w' a b m' hi' hk' hw' ex' ey' ez' ea eb ha hb hm' eo A1 f1 hA hf => ?_)
    obtain rfl : i = i' := (nI_eq (by omega) (by omega)).mp (ex.symm.trans ex')
    obtain rfl : k = k' := (nI_eq (by omega) (by omega)).mp (ey.symm.trans ey')
    obtain rfl : w = w' := (nI_eq (by omega) (by omega)).mp (ez.symm.trans ez')
    obtain ⟨o1, o2⟩ := oB i k a b hi ha hb ea eb
    obtain rfl := (nI_eq (by omega) (by omega)).mp (eo.symm.trans o1)
    rw [cdP_g hm' hr hc]
    exact q _ _ _ _ _ _ _ _ _ rfl ((hP.th (m' := m + 40000) hJ hI hA (by omega)).r)
set_option maxRecDepth 10000 in
theorem j_check {l : Launch} {d m n : Nat} {R W Z : Nat → Nat → Int32} {T : Nat → Nat → Nat} {kn : Kn} {D : Nat → Int32} {A : Nat → Nat → Int32} {S : Nat → Int32} (hR : Rel m R W Z T kn n D A S) (hm : m < 2 ^ 25) : Ct l M_F_check (d + 60) 9 13364 [.ref 0] n (co R W Z T kn (mo 88 D A S hN)) (JN m l M_Mo_check (d + 60) [.ref 88]) := by
  obtain ⟨N, dy, tp, wt, Wc0, len0, V0, l0, Wc1, len1, V1, l1, hP⟩ := id hR
  obtain ⟨hS, hB1, hB2, hK, hT, hPr, hTr, hSh, hEr, hIm, fm, hfm, hfl⟩ := id hP
  obtain ⟨⟨hN8, d0, d1, dy9, hB0, hBD, hAT, hDF⟩, ⟨tp1, tp2, tp3, tp4⟩, ⟨wt1, wt2, wt3, wt4⟩, hQ0, hQ1⟩ := id hS
  have e0 : W 0 0 = nI N := (hAT.lo (by omega)).trans d0
  have hdy : W 0 1 = nI dy := (hAT.lo (by omega)).trans d1
  have hTS : TS D N := fun t ht => ⟨hBD.k0 (by omega), hBD.k2 (by omega), hBD.k3 (by omega)⟩
  have aT : ∀ i k, i < N → k < 7 → W 0 (50 + 7 * i + k) = D (50 + 7 * i + k) := fun i k hi hk => hAT.tr hi hk
  have eq : ∀ u, u < wt → (D (108 + u) = btc (stb (dsD (tgv 0 V0 l0) (tgv 1 V1 l1) N (u + 1) (upd D 7 (nI 0))).1 N) ↔ R 50 u = bcv (stS (dsG (cvc Wc0 len0) (wvc Wc1 len1) N (fun i => (imP (W 0) N).getD i 0) (imP (W 0) N).length (cpW (W 1) (W 0)) (u + 1)).1 true N)) := fun u hu => by
    have a7 : AT N (upd D 7 (nI 0)) (cpW (W 1) (W 0)) := fun j hj => by
      rw [pk_un (by rcases hj with h | h | h <;> omega)]
      exact (AG.t hAT (AG.cp hN8)) j hj
    rw [(hP.tieS a7 (fun j hj h106 => if_pos (by omega)) (u + 1)).1, stS_bt hN8, wt4 u hu]
  refine c_F_check hP.ci hN_mo wt1 wt2 (fun r hr R1 W1 Z1 T1 kn1 n1 hJ hI => JN.of hI.2.2.2.2.2.2.2.2.1 (fun Q2 q => ?_))
  refine c_Mo_check hN8 hP.dw (by omega) hfm wt1 wt3 (fun r' hr' A1 f1 hA hf => ?_)
  have er : r' = r := by
    rcases hr with ⟨e, h⟩ | ⟨k, hk, e, h, hn⟩
    · rcases hr' with ⟨e', h'⟩ | ⟨k', hk', e', h', hn'⟩
      · rw [e, e']
      · exact absurd ((eq k' hk').mpr (h k' hk')) hn'
    · rcases hr' with ⟨e', h'⟩ | ⟨k', hk', e', h', hn'⟩
      · exact absurd ((eq k hk).mp (h' k hk)) hn
      · have : k = k' := by
          by_cases a1 : k < k'
          · exact absurd ((eq k hk).mp (h' k a1)) hn
          · by_cases a2 : k' < k
            · exact absurd ((eq k' hk').mpr (h k' a2)) hn'
            · omega
        rw [e, e', this]
  have h2 := hP.th (m' := m + 40000) (f1 := f1) hJ hI hA (by omega)
  have s2 := h2.1
  refine q _ _ _ _ _ _ _ _ _ er ((h2.e (W' := W1) (R' := R1) (Z' := uZ Z1 49 1 (nI 0)) (D' := upd D 7 (nI 0)) (s2.d (tp' := tp) (wt' := 0) (fun j hj => pk_un (by omega)) ⟨tp1, ?_, ?_, fun j hj => ?_⟩ ⟨by omega, uZ_s, pk_us, fun j hj => absurd hj (by omega)⟩ (s2.2.2.2.1.d (fun j hj => pk_un (by omega))) (s2.2.2.2.2.d (fun j hj => pk_un (by omega)))) h2.2.1 rfl h2.2.2.2.1 h2.2.2.2.2.1 (fun _ _ => rfl) (fun b j hb => uZ_n (by omega)) (fun _ _ => rfl) (fun _ _ => rfl)).r)
  · exact s2.2.1.2.1
  · rw [pk_un (by omega)]; exact tp3
  · rw [pk_un (by omega)]; exact s2.2.1.2.2.2 j hj
