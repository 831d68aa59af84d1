set_option maxRecDepth 10000 in
theorem j_tell {l : Launch} {d m n : Nat} {R W Z : Nat → Nat → Int32} {T : Nat → Nat → Nat} {kn : Kn} {D : Nat → Int32} {A : Nat → Nat → Int32} {S : Nat → Int32} {v : Int32} (hR : Rel m R W Z T kn n D A S) : Ct l M_F_tell (d + 60) 0 0 [.ref 0, .int v] n (co R W Z T kn (mo 88 D A S hN)) (JN m l M_Mo_tell (d + 60) [.ref 88, .int v]) := by
  obtain ⟨N, dy, tp, wt, Wc0, len0, V0, l0, Wc1, len1, V1, l1, hP⟩ := id hR
  obtain ⟨hS, hB1, hB2, hK, hT, hPr, hTr, hSh, hEr, hIm, fm, hfm, hfl⟩ := id hP
  obtain ⟨⟨hN8, d0, d1, dy9, hB0, hBD, hAT, hDF⟩, ⟨tp1, tp2, tp3, tp4⟩, ⟨wt1, wt2, wt3, wt4⟩, hQ0, hQ1⟩ := id hS
  have e0 : W 0 0 = nI N := (hAT.lo (by omega)).trans d0
  have hdy : W 0 1 = nI dy := (hAT.lo (by omega)).trans d1
  have hTS : TS D N := fun t ht => ⟨hBD.k0 (by omega), hBD.k2 (by omega), hBD.k3 (by omega)⟩
  have aT : ∀ i k, i < N → k < 7 → W 0 (50 + 7 * i + k) = D (50 + 7 * i + k) := fun i k hi hk => hAT.tr hi hk
  refine c_F_tell wt1 wt2 (fun e => JN.of hT (fun Q2 q => ?_)) (fun e => JN.of hT (fun Q2 q => ?_))
  · exact c_Mo_tell wt1 wt3 (fun _ => q _ _ _ _ _ _ _ _ _ rfl (hR.err.mm (by omega))) (fun h => absurd h (by omega))
  · refine c_Mo_tell wt1 wt3 (fun h => absurd h (by omega)) (fun _ => q _ _ _ _ _ _ _ _ _ rfl ((hP.e (R' := uA R 50 (upd (R 50) wt v)) (W' := W) (Z' := uZ Z 49 1 (nI (wt + 1))) (D' := upd (upd D (108 + wt) v) 7 (nI (wt + 1))) (hS.d (tp' := tp) (wt' := wt + 1) (fun j hj => by rw [pk_un (by omega), pk_un (by omega)]) ⟨tp1, ?_, ?_, fun j hj => ?_⟩ ⟨by omega, uZ_s, pk_us, fun j hj => ?_⟩ (hQ0.d (fun j hj => by rw [pk_un (by omega), pk_un (by omega)])) (hQ1.d (fun j hj => by rw [pk_un (by omega), pk_un (by omega)]))) hB1 rfl hK hT (fun a ha => uA_n (by omega)) (fun b j hb => uZ_n (by omega)) (fun _ _ => rfl) (fun _ _ => rfl)).r.mm (by omega)))
    · exact tp2
    · rw [pk_un (by omega), pk_un (by omega)]; exact tp3
    · rw [pk_un (by omega), pk_un (by omega)]; exact tp4 j hj
    · show uA R 50 (upd (R 50) wt v) 50 j = _
      rw [uA_s, pk_un (show 108 + j ≠ 7 by omega)]
      by_cases e2 : j = wt
      · subst e2; rw [pk_us, pk_us]
      · rw [pk_un e2, pk_un (by omega)]; exact wt4 j (by omega)
set_option maxRecDepth 10000 in
theorem j_sheet {l : Launch} {d m n : Nat} {R W Z : Nat → Nat → Int32} {T : Nat → Nat → Nat} {kn : Kn} {D : Nat → Int32} {A : Nat → Nat → Int32} {S : Nat → Int32} {x y z : Int32} (hR : Rel m R W Z T kn n D A S) : Ct l M_F_sheet (d + 60) 0 0 [.ref 0, .int x, .int y, .int z] n (co R W Z T kn (mo 88 D A S hN)) (JN m l M_Mo_sheet (d + 60) [.ref 88, .int x, .int y, .int z]) := by
  obtain ⟨N, dy, tp, wt, Wc0, len0, V0, l0, Wc1, len1, V1, l1, hP⟩ := id hR
  obtain ⟨hS, hB1, hB2, hK, hT, hPr, hTr, hSh, hEr, hIm, fm, hfm, hfl⟩ := id hP
  obtain ⟨⟨hN8, d0, d1, dy9, hB0, hBD, hAT, hDF⟩, ⟨tp1, tp2, tp3, tp4⟩, ⟨wt1, wt2, wt3, wt4⟩, hQ0, hQ1⟩ := id hS
  have e0 : W 0 0 = nI N := (hAT.lo (by omega)).trans d0
  have hdy : W 0 1 = nI dy := (hAT.lo (by omega)).trans d1
  have hTS : TS D N := fun t ht => ⟨hBD.k0 (by omega), hBD.k2 (by omega), hBD.k3 (by omega)⟩
  have aT : ∀ i k, i < N → k < 7 → W 0 (50 + 7 * i + k) = D (50 + 7 * i + k) := fun i k hi hk => hAT.tr hi hk
  refine c_F_sheet (fun hE => JN.of hT (fun Q2 q => ?_)) (fun h1 h2 h3 h4 => JN.of hT (fun Q2 q => ?_)) (fun h1 h2 h3 h4 h5 => JN.of hT (fun Q2 q => ?_)) (fun i hi ex h2 h3 => JN.of hT (fun Q2 q => ?_))
  · exact c_Mo_sheet (fun _ => q _ _ _ _ _ _ _ _ _ rfl (hR.err.mm (by omega))) (fun h1 h2 h3 h4 => (hE.elim (fun z => absurd (z.symm.trans h1) (by decide)) (fun z => absurd h2 z))) (fun h1 h2 h3 h4 h5 => (hE.elim (fun z => absurd (z.symm.trans h1) (by decide)) (fun z => absurd h2 z))) (fun i hi ex h2 h3 => (hE.elim (fun z => absurd z (by rw [ex, wiT hi (by decide)]; decide)) (fun z => absurd h2 z)))
  · exact c_Mo_sheet (fun z => (z.elim (fun z => absurd (z.symm.trans h1) (by decide)) (fun z => absurd h2 z))) (fun _ _ _ _ => q _ _ _ _ _ _ _ _ _ rfl (hR.err.mm (by omega))) (fun _ _ _ k4 _ => absurd k4 (Int32.not_le.mpr h4)) (fun i hi ex k2 k3 => absurd (k3 h3).1 (Int32.not_le.mpr h4))
  · exact c_Mo_sheet (fun z => (z.elim (fun z => absurd (z.symm.trans h1) (by decide)) (fun z => absurd h2 z))) (fun _ _ _ k4 => absurd h4 (Int32.not_le.mpr k4)) (fun _ _ _ _ _ => q _ _ _ _ _ _ _ _ _ rfl (hR.err.mm (by omega))) (fun i hi ex k2 k3 => absurd (k3 h3).2 h5)
  · refine c_Mo_sheet (fun z => (z.elim (fun z => absurd z (by rw [ex, wiT hi (by decide)]; decide)) (fun z => absurd h2 z))) (fun _ _ k3 k4 => absurd (h3 k3).1 (Int32.not_le.mpr k4)) (fun _ _ k3 _ k5 => absurd (h3 k3).2 k5) (fun i' hi' ex' k2 k3 => ?_)
    have ei : i = i' := (nI_eq (by omega) (by omega)).mp (ex.symm.trans ex')
    subst ei
    have hz : ∃ s, s ≤ 40 ∧ (if y = 0 then nI 0 else z) = nI s := by
      by_cases y0 : y = 0
      · rw [if_pos y0]; exact ⟨0, by omega, rfl⟩
      · rw [if_neg y0]
        obtain ⟨s, hs, rfl⟩ := nI_of (Int32.not_lt.mpr (h3 y0).1)
        exact ⟨s, (nI_leI hs (by decide)).mp (h3 y0).2, rfl⟩
    obtain ⟨s, hs, ez⟩ := hz
    have hl : hld (nI s) (nI 0) (nI 40) = nI s := by
      unfold hld
      rw [if_neg (nI_nlt (Nat.zero_le _) (by omega)), if_neg (nI_nlt hs (by decide))]
    rw [ez] at *
    rw [hl]
    refine q _ _ _ _ _ _ _ _ _ rfl ((hP.sh (fun a ha => uA_n (by omega)) (fun b j hb => by rw [uZ_n (by omega), uZ_n (by omega)]) (fun j hj => by unfold shA; rw [uA_n (by omega), uA_n (by omega), uA_n (by omega)]) ?_).r.mm (by omega))
    intro t ht
    by_cases e : t = i
    · subst e
      refine ⟨?_, ⟨s, hs, uZ_s, ?_⟩, fun j hj => ?_⟩
      · rw [uZ_n (by omega), uZ_s]
        unfold shA
        rw [uA_n (by decide), uA_n (by decide), uA_s, pk_us]
      · unfold shA
        rw [uA_n (by decide), uA_s, pk_us]
      · unfold shA
        show uA R _ _ _ j = _
        rw [uA_s, uA_s]
        unfold flN zsg
        rw [if_pos (by omega), if_pos (by omega)]
    · obtain ⟨s1, ⟨sz, q1, q2, q3⟩, s3⟩ := hSh t ht
      refine ⟨?_, ⟨sz, q1, ?_, ?_⟩, fun j hj => ?_⟩
      · rw [uZ_n (by omega), uZ_n (by omega)]
        unfold shA
        rw [uA_n (by decide), uA_n (by decide), uA_s, pk_un e]; exact s1
      · rw [uZ_n (by omega), uZ_n (by omega)]; exact q2
      · unfold shA
        rw [uA_n (by decide), uA_s, pk_un e]; exact q3
      · unfold shA
        show uA R _ _ _ j = _
        rw [uA_n (by omega), uA_s]
        unfold zsg
        rw [if_neg (by omega)]
        exact s3 j hj
set_option maxRecDepth 10000 in
theorem j_put {l : Launch} {d m n : Nat} {R W Z : Nat → Nat → Int32} {T : Nat → Nat → Nat} {kn : Kn} {D : Nat → Int32} {A : Nat → Nat → Int32} {S : Nat → Int32} {x y v : Int32} (hR : Rel m R W Z T kn n D A S) : Ct l M_F_put (d + 60) 0 0 [.ref 0, .int x, .int y, .int v] n (co R W Z T kn (mo 88 D A S hN)) (JN m l M_Mo_put (d + 60) [.ref 88, .int x, .int y, .int v]) := by
  obtain ⟨N, dy, tp, wt, Wc0, len0, V0, l0, Wc1, len1, V1, l1, hP⟩ := id hR
  obtain ⟨hS, hB1, hB2, hK, hT, hPr, hTr, hSh, hEr, hIm, fm, hfm, hfl⟩ := id hP
  obtain ⟨⟨hN8, d0, d1, dy9, hB0, hBD, hAT, hDF⟩, ⟨tp1, tp2, tp3, tp4⟩, ⟨wt1, wt2, wt3, wt4⟩, hQ0, hQ1⟩ := id hS
  have e0 : W 0 0 = nI N := (hAT.lo (by omega)).trans d0
  have hdy : W 0 1 = nI dy := (hAT.lo (by omega)).trans d1
  have hTS : TS D N := fun t ht => ⟨hBD.k0 (by omega), hBD.k2 (by omega), hBD.k3 (by omega)⟩
  have aT : ∀ i k, i < N → k < 7 → W 0 (50 + 7 * i + k) = D (50 + 7 * i + k) := fun i k hi hk => hAT.tr hi hk
  refine c_F_put hSh.sz (fun hE => JN.of hT (fun Q2 q => ?_)) (fun i hi ex h1 => JN.of hT (fun Q2 q => ?_)) (fun i sz hi ex h1 h2 h3 h4 => JN.of hT (fun Q2 q => ?_)) (fun i sz j hi ex h1 h2 h3 h4 h5 => JN.of hT (fun Q2 q => ?_))
  · exact c_Mo_put hSh.sA (fun _ => q _ _ _ _ _ _ _ _ _ rfl (hR.err.mm (by omega))) (fun i hi ex _ => absurd hE (by rw [ex, wiT hi (by decide)]; decide)) (fun i _ hi ex _ _ _ _ => absurd hE (by rw [ex, wiT hi (by decide)]; decide)) (fun i _ _ hi ex _ _ _ _ _ => absurd hE (by rw [ex, wiT hi (by decide)]; decide))
  · rw [hSh.b hi] at h1
    refine c_Mo_put hSh.sA (fun hE => absurd hE (by rw [ex, wiT hi (by decide)]; decide)) (fun _ _ _ _ => q _ _ _ _ _ _ _ _ _ rfl (hR.err.mm (by omega))) (fun i' _ hi' ex' h _ _ _ => ?_) (fun i' _ _ hi' ex' h _ _ _ _ => ?_)
    · obtain rfl : i = i' := (nI_eq (by omega) (by omega)).mp (ex.symm.trans ex')
      exact absurd h1 h
    · obtain rfl : i = i' := (nI_eq (by omega) (by omega)).mp (ex.symm.trans ex')
      exact absurd h1 h
  · rw [hSh.b hi] at h1
    rw [wh_wi (by omega)] at h4
    refine c_Mo_put hSh.sA (fun hE => absurd hE (by rw [ex, wiT hi (by decide)]; decide)) (fun i' hi' ex' h => ?_) (fun _ _ _ _ _ _ _ _ => q _ _ _ _ _ _ _ _ _ rfl (hR.err.mm (by omega))) (fun i' s' j' hi' ex' k1 k2 k3 k4 k5 => ?_)
    · obtain rfl : i = i' := (nI_eq (by omega) (by omega)).mp (ex.symm.trans ex')
      exact absurd h h1
    · obtain rfl : i = i' := (nI_eq (by omega) (by omega)).mp (ex.symm.trans ex')
      obtain rfl := hSh.s hi h2 k2 h3 k3
      exact absurd h4 (by rw [k5, wiN k4 (by omega)]; decide)
  · have h1' := h1
    rw [hSh.b hi] at h1
    refine c_Mo_put hSh.sA (fun hE => absurd hE (by rw [ex, wiT hi (by decide)]; decide)) (fun i' hi' ex' h => ?_) (fun i' s' hi' ex' k1 k2 k3 k4 => ?_) (fun i' s' j' hi' ex' k1 k2 k3 k4 k5 => ?_)
    · obtain rfl : i = i' := (nI_eq (by omega) (by omega)).mp (ex.symm.trans ex')
      exact absurd h h1
    · obtain rfl : i = i' := (nI_eq (by omega) (by omega)).mp (ex.symm.trans ex')
      obtain rfl := hSh.s hi h2 k2 h3 k3
      exact absurd k4 (by rw [h5, wiN h4 (by omega)]; decide)
    · obtain rfl : i = i' := (nI_eq (by omega) (by omega)).mp (ex.symm.trans ex')
      obtain rfl := hSh.s hi h2 k2 h3 k3
      obtain rfl : j = j' := (nI_eq (by omega) (by omega)).mp (h5.symm.trans k5)
      refine q _ _ _ _ _ _ _ _ _ rfl ((hP.sh (fun a ha => uA_n (by omega)) (fun _ _ _ => rfl) (fun a ha => uA_n (by omega)) ?_).r.mm (by omega))
      intro t ht
      obtain ⟨s1, s2, s3⟩ := hSh t ht
      refine ⟨s1, s2, fun u hu => ?_⟩
      show uA R _ _ _ u = uA A 13 _ 13 _
      rw [uA_s]
      by_cases e : t = i
      · subst e
        rw [uA_s, hSh.b hi]
        by_cases e2 : u = j
        · subst e2; rw [pk_us, pk_us]
        · rw [pk_un e2, pk_un (by omega)]; exact s3 u hu
      · rw [uA_n (by omega), pk_un (by omega)]; exact s3 u hu
set_option maxRecDepth 10000 in
theorem j_talks {l : Launch} {d m n : Nat} {R W Z : Nat → Nat → Int32} {T : Nat → Nat → Nat} {kn : Kn} {D : Nat → Int32} {A : Nat → Nat → Int32} {S : Nat → Int32} {x : Int32} (hR : Rel m R W Z T kn n D A S) : Ct l M_F_talks (d + 60) 0 0 [.ref 0, .int x] n (co R W Z T kn (mo 88 D A S hN)) (JN m l M_Mo_talks (d + 60) [.ref 88, .int x]) := by
  obtain ⟨N, dy, tp, wt, Wc0, len0, V0, l0, Wc1, len1, V1, l1, hP⟩ := id hR
  obtain ⟨hS, hB1, hB2, hK, hT, hPr, hTr, hSh, hEr, hIm, fm, hfm, hfl⟩ := id hP
  obtain ⟨⟨hN8, d0, d1, dy9, hB0, hBD, hAT, hDF⟩, ⟨tp1, tp2, tp3, tp4⟩, ⟨wt1, wt2, wt3, wt4⟩, hQ0, hQ1⟩ := id hS
  have e0 : W 0 0 = nI N := (hAT.lo (by omega)).trans d0
  have hdy : W 0 1 = nI dy := (hAT.lo (by omega)).trans d1
  have hTS : TS D N := fun t ht => ⟨hBD.k0 (by omega), hBD.k2 (by omega), hBD.k3 (by omega)⟩
  have aT : ∀ i k, i < N → k < 7 → W 0 (50 + 7 * i + k) = D (50 + 7 * i + k) := fun i k hi hk => hAT.tr hi hk
  refine c_F_talks hSh.sz hT (fun hE => JN.of hT (fun Q2 q => ?_)) (fun i hi ex h1 => JN.of hT (fun Q2 q => ?_)) (fun i sz k hi ex h1 h2 h3 h4 h5 h6 h7 => JN.of hT (fun Q2 q => ?_))
  · exact c_Mo_talks hSh.sA (fun _ => q _ _ _ _ _ _ _ _ _ rfl (hR.err.mm (by omega))) (fun i hi ex _ => absurd hE (by rw [ex, wiT hi (by decide)]; decide)) (fun i _ _ hi ex _ _ _ _ _ _ _ => absurd hE (by rw [ex, wiT hi (by decide)]; decide))
  · rw [hSh.b hi] at h1
    refine c_Mo_talks hSh.sA (fun hE => absurd hE (by rw [ex, wiT hi (by decide)]; decide)) (fun _ _ _ _ => q _ _ _ _ _ _ _ _ _ rfl (hR.err.mm (by omega))) (fun i' _ _ hi' ex' h _ _ _ _ _ _ => ?_)
    obtain rfl : i = i' := (nI_eq (by omega) (by omega)).mp (ex.symm.trans ex')
    exact absurd h1 h
  · rw [hSh.b hi] at h1
    refine c_Mo_talks hSh.sA (fun hE => absurd hE (by rw [ex, wiT hi (by decide)]; decide)) (fun i' hi' ex' h => ?_) (fun i' s' k' hi' ex' k1 k2 k3 k4 k5 k6 k7 => ?_)
    · obtain rfl : i = i' := (nI_eq (by omega) (by omega)).mp (ex.symm.trans ex')
      exact absurd h h1
    · obtain rfl : i = i' := (nI_eq (by omega) (by omega)).mp (ex.symm.trans ex')
      obtain rfl := hSh.s hi h2 k2 h3 k3
      have ek : k = k' := fst_uniq (p := fun u => wi (A 13 (40 * i + u)) (nI 0) (nI 9) = true) h4 h5 (fun u hu => by rw [← hSh.d hi (by omega)]; exact h6 u hu) (h7.imp id (Or.imp id (fun z => ⟨z.1, z.2.1, by rw [← hSh.d hi (by omega), z.2.2]; decide⟩))) k4 k5 k6 (k7.imp id (Or.imp id (fun z => ⟨z.1, z.2.1, by rw [z.2.2]; decide⟩)))
      subst ek
      have wv : ∀ u, u < k → ∃ c, c ≤ 9 ∧ A 13 (40 * i + u) = nI c := fun u hu => wi_nat (k := 9) (by decide) (k6 u hu)
      have hw1 : ∀ E : Nat → Int32, WB E → WB (tkD E (fun u => A 13 (40 * i + u)) k) := fun E hE j hj => by
        obtain ⟨c, c1, c2⟩ := hE j hj
        by_cases e : 44 ≤ j ∧ j < 44 + k
        · obtain ⟨c', c1', c2'⟩ := wv (j - 44) (by omega)
          refine ⟨c', ?_, by rw [tkD_at, if_pos e]; exact c2'⟩
          have := bnd_t (j - 44) (by omega)
          rw [show 44 + (j - 44) = j by omega] at this
          omega
        · exact ⟨c, c1, by rw [tkD_at, if_neg e]; exact c2⟩
      have eE : tkD (W 0) (R (80 + 2 * i + 1)) k = tkD (W 0) (fun u => A 13 (40 * i + u)) k := by
        funext j
        rw [tkD_at, tkD_at]
        by_cases e : 44 ≤ j ∧ j < 44 + k
        · rw [if_pos e, if_pos e]; exact hSh.d hi (by omega)
        · rw [if_neg e, if_neg e]
      rw [eE]
      refine q _ _ _ _ _ _ _ _ _ rfl ((hP.w (N' := N) (dy' := dy) ⟨hN8, ?_, ?_, dy9⟩ (hw1 _ hB0) (hw1 _ hBD) (fun j hj => ?_) (hDF.k (fun t ht => ⟨?_, ?_⟩)) (fun j hj => ?_)).r.mm (by omega))
      · rw [tkD_at, if_neg (by omega)]; exact d0
      · rw [tkD_at, if_neg (by omega)]; exact d1
      · rw [tkD_at, tkD_at]
        by_cases e : 44 ≤ j ∧ j < 44 + k
        · rw [if_pos e, if_pos e]
        · rw [if_neg e, if_neg e]; exact hAT j hj
      · rw [tkD_at, if_neg (by omega)]
      · rw [tkD_at, if_neg (by omega)]
      · rw [tkD_at, if_neg (by omega)]
set_option maxRecDepth 10000 in
theorem j_judge {l : Launch} {d m n : Nat} {R W Z : Nat → Nat → Int32} {T : Nat → Nat → Nat} {kn : Kn} {D : Nat → Int32} {A : Nat → Nat → Int32} {S : Nat → Int32} {x : Int32} (hR : Rel m R W Z T kn n D A S) : Ct l M_F_judge (d + 60) 0 0 [.ref 0, .int x] n (co R W Z T kn (mo 88 D A S hN)) (JN m l M_Mo_judge (d + 60) [.ref 88, .int x]) := by
  obtain ⟨N, dy, tp, wt, Wc0, len0, V0, l0, Wc1, len1, V1, l1, hP⟩ := id hR
  obtain ⟨hS, hB1, hB2, hK, hT, hPr, hTr, hSh, hEr, hIm, fm, hfm, hfl⟩ := id hP
  obtain ⟨⟨hN8, d0, d1, dy9, hB0, hBD, hAT, hDF⟩, ⟨tp1, tp2, tp3, tp4⟩, ⟨wt1, wt2, wt3, wt4⟩, hQ0, hQ1⟩ := id hS
  have e0 : W 0 0 = nI N := (hAT.lo (by omega)).trans d0
  have hdy : W 0 1 = nI dy := (hAT.lo (by omega)).trans d1
  have hTS : TS D N := fun t ht => ⟨hBD.k0 (by omega), hBD.k2 (by omega), hBD.k3 (by omega)⟩
  have aT : ∀ i k, i < N → k < 7 → W 0 (50 + 7 * i + k) = D (50 + 7 * i + k) := fun i k hi hk => hAT.tr hi hk
  refine c_F_judge hN8 e0 hT hB0 hSh.sz (fun hE => JN.of hT (fun Q2 q => ?_)) (fun i hi ex h1 => JN.of hT (fun Q2 q => ?_)) (fun i sz k hi ex h1 h2 h3 h4 h5 h6 h7 => JN.of hT (fun Q2 q => ?_))
  · exact c_Mo_judge hN8 d0 hSh.sA (fun _ => q _ _ _ _ _ _ _ _ _ rfl (hR.err.mm (by omega))) (fun i hi ex _ => absurd hE (by rw [ex, wiT hi (by decide)]; decide)) (fun i _ _ hi ex _ _ _ _ _ _ _ => absurd hE (by rw [ex, wiT hi (by decide)]; decide))
  · rw [hSh.b hi] at h1
    refine c_Mo_judge hN8 d0 hSh.sA (fun hE => absurd hE (by rw [ex, wiT hi (by decide)]; decide)) (fun _ _ _ _ => q _ _ _ _ _ _ _ _ _ rfl (hR.err.mm (by omega))) (fun i' _ _ hi' ex' h _ _ _ _ _ _ => ?_)
    obtain rfl : i = i' := (nI_eq (by omega) (by omega)).mp (ex.symm.trans ex')
    exact absurd h1 h
  · rw [hSh.b hi] at h1
    refine c_Mo_judge hN8 d0 hSh.sA (fun hE => absurd hE (by rw [ex, wiT hi (by decide)]; decide)) (fun i' hi' ex' h => ?_) (fun i' s' k' hi' ex' k1 k2 k3 k4 k5 k6 k7 => ?_)
    · obtain rfl : i = i' := (nI_eq (by omega) (by omega)).mp (ex.symm.trans ex')
      exact absurd h h1
    · obtain rfl : i = i' := (nI_eq (by omega) (by omega)).mp (ex.symm.trans ex')
      obtain rfl := hSh.s hi h2 k2 h3 k3
      have ek : k = k' := fst_uniq (p := fun u => A 13 (40 * i + u) = D (50 + 7 * u + 5)) h4 h5 (fun u hu => by rw [← hSh.d hi (by omega), ← aT u 5 (by omega) (by omega)]; exact h6 u hu) (h7.imp id (Or.imp id (fun z => ⟨z.1, z.2.1, by rw [← hSh.d hi (by omega), ← aT k 5 (by omega) (by omega)]; exact z.2.2⟩))) k4 k5 k6 k7
      subst ek
      exact q _ _ _ _ _ _ _ _ _ rfl (hR.mm (by omega))
