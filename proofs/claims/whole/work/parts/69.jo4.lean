theorem hrn_T {a k s : Nat} (h : a + k ≤ s) (hs : s ≤ 40) : hrn (nI a) (nI k) (nI s) = true := by
  unfold hrn
  rw [decide_eq_true (nI_pos' (by omega)), decide_eq_true (nI_pos' (by omega)), pk_sub (by omega), decide_eq_true (nI_le (by omega) (by omega))]
  rfl
set_option maxRecDepth 10000 in
theorem j_move {l : Launch} {d m n : Nat} {R W Z : Nat → Nat → Int32} {T : Nat → Nat → Nat} {kn : Kn} {D : Nat → Int32} {A : Nat → Nat → Int32} {S : Nat → Int32} {x y u v w : Int32} (hR : Rel m R W Z T kn n D A S) : Ct l M_F_move (d + 60) 0 0 [.ref 0, .int x, .int y, .int u, .int v, .int w] n (co R W Z T kn (mo 88 D A S hN)) (JN m l M_Mo_move (d + 60) [.ref 88, .int x, .int y, .int u, .int v, .int w]) := by
  obtain ⟨N, dy, tp, wt, Wc0, len0, V0, l0, Wc1, len1, V1, l1, hP⟩ := id hR
  obtain ⟨hS, hB1, hB2, hK, hT, hPr, hTr, hSh, hEr, hIm, fm, hfm, hfl⟩ := id hP
  obtain ⟨⟨hN8, d0, d1, dy9, hB0, hBD, hAT, hDF⟩, ⟨tp1, tp2, tp3, tp4⟩, ⟨wt1, wt2, wt3, wt4⟩, hQ0, hQ1⟩ := id hS
  have e0 : W 0 0 = nI N := (hAT.lo (by omega)).trans d0
  have hdy : W 0 1 = nI dy := (hAT.lo (by omega)).trans d1
  have hTS : TS D N := fun t ht => ⟨hBD.k0 (by omega), hBD.k2 (by omega), hBD.k3 (by omega)⟩
  have aT : ∀ i k, i < N → k < 7 → W 0 (50 + 7 * i + k) = D (50 + 7 * i + k) := fun i k hi hk => hAT.tr hi hk
  refine c_F_move hSh.sz (fun hE => JN.of hT (fun Q2 q => ?_)) (fun i j hi hj ex eu h1 => JN.of hT (fun Q2 q => ?_)) (fun i j hi hj ex eu h1 h2 h3 => JN.of hT (fun Q2 q => ?_)) (fun i j si sj hi hj ex eu h1 h2 h3 h4 h5 h6 h7 h8 => JN.of hT (fun Q2 q => ?_)) (fun i j si sj a b k hi hj ex eu h1 h2 h3 h4 h5 h6 h7 h8 h9 ey ev ew => JN.of hT (fun Q2 q => ?_))
  · exact c_Mo_move hSh.sA (fun _ => q _ _ _ _ _ _ _ _ _ rfl (hR.err.mm (by omega))) (fun i j hi hj ex eu _ => absurd hE (by rw [ex, eu, wiT hi (by decide), wiT hj (by decide)]; decide)) (fun i j hi hj ex eu _ _ _ => absurd hE (by rw [ex, eu, wiT hi (by decide), wiT hj (by decide)]; decide)) (fun i j _ _ hi hj ex eu _ _ _ _ _ _ _ _ => absurd hE (by rw [ex, eu, wiT hi (by decide), wiT hj (by decide)]; decide)) (fun i j _ _ _ _ _ hi hj ex eu _ _ _ _ _ _ _ _ _ _ _ _ _ => absurd hE (by rw [ex, eu, wiT hi (by decide), wiT hj (by decide)]; decide))
  · rw [hSh.b hi, hSh.b hj] at h1
    refine c_Mo_move hSh.sA (fun hE => absurd hE (by rw [ex, eu, wiT hi (by decide), wiT hj (by decide)]; decide)) (fun _ _ _ _ _ _ _ => q _ _ _ _ _ _ _ _ _ rfl (hR.err.mm (by omega))) (fun i' j' hi' hj' ex' eu' k1 k2 _ => ?_) (fun i' j' _ _ hi' hj' ex' eu' k1 k2 _ _ _ _ _ _ => ?_) (fun i' j' _ _ _ _ _ hi' hj' ex' eu' k1 k2 _ _ _ _ _ _ _ _ _ _ _ => ?_)
    · obtain rfl : i = i' := (nI_eq (by omega) (by omega)).mp (ex.symm.trans ex')
      obtain rfl : j = j' := (nI_eq (by omega) (by omega)).mp (eu.symm.trans eu')
      exact h1.elim (fun z => absurd z k1) (fun z => absurd z k2)
    · obtain rfl : i = i' := (nI_eq (by omega) (by omega)).mp (ex.symm.trans ex')
      obtain rfl : j = j' := (nI_eq (by omega) (by omega)).mp (eu.symm.trans eu')
      exact h1.elim (fun z => absurd z k1) (fun z => absurd z k2)
    · obtain rfl : i = i' := (nI_eq (by omega) (by omega)).mp (ex.symm.trans ex')
      obtain rfl : j = j' := (nI_eq (by omega) (by omega)).mp (eu.symm.trans eu')
      exact h1.elim (fun z => absurd z k1) (fun z => absurd z k2)
  · rw [hSh.b hi] at h1 h3
    rw [hSh.b hj] at h2 h3
    refine c_Mo_move hSh.sA (fun hE => absurd hE (by rw [ex, eu, wiT hi (by decide), wiT hj (by decide)]; decide)) (fun i' j' hi' hj' ex' eu' k => ?_) (fun _ _ _ _ _ _ _ _ _ => q _ _ _ _ _ _ _ _ _ rfl (hR.err.mm (by omega))) (fun i' j' _ _ hi' hj' ex' eu' k1 k2 k3 _ _ _ _ _ => ?_) (fun i' j' _ _ _ _ _ hi' hj' ex' eu' k1 k2 k3 _ _ _ _ _ _ _ _ _ _ => ?_)
    · obtain rfl : i = i' := (nI_eq (by omega) (by omega)).mp (ex.symm.trans ex')
      obtain rfl : j = j' := (nI_eq (by omega) (by omega)).mp (eu.symm.trans eu')
      exact k.elim (fun z => absurd z h1) (fun z => absurd z h2)
    · obtain rfl : i = i' := (nI_eq (by omega) (by omega)).mp (ex.symm.trans ex')
      obtain rfl : j = j' := (nI_eq (by omega) (by omega)).mp (eu.symm.trans eu')
      exact absurd k3 h3
    · obtain rfl : i = i' := (nI_eq (by omega) (by omega)).mp (ex.symm.trans ex')
      obtain rfl : j = j' := (nI_eq (by omega) (by omega)).mp (eu.symm.trans eu')
      exact absurd k3 h3
  · rw [hSh.b hi] at h1 h3
    rw [hSh.b hj] at h2 h3
    refine c_Mo_move hSh.sA (fun hE => absurd hE (by rw [ex, eu, wiT hi (by decide), wiT hj (by decide)]; decide)) (fun i' j' hi' hj' ex' eu' k => ?_) (fun i' j' hi' hj' ex' eu' k1 k2 k3 => ?_) (fun _ _ _ _ _ _ _ _ _ _ _ _ _ _ _ _ => q _ _ _ _ _ _ _ _ _ rfl (hR.err.mm (by omega))) (fun i' j' s t a b k hi' hj' ex' eu' k1 k2 k3 k4 k5 k6 k7 k8 k9 ey ev ew => ?_)
    · obtain rfl : i = i' := (nI_eq (by omega) (by omega)).mp (ex.symm.trans ex')
      obtain rfl : j = j' := (nI_eq (by omega) (by omega)).mp (eu.symm.trans eu')
      exact k.elim (fun z => absurd z h1) (fun z => absurd z h2)
    · obtain rfl : i = i' := (nI_eq (by omega) (by omega)).mp (ex.symm.trans ex')
      obtain rfl : j = j' := (nI_eq (by omega) (by omega)).mp (eu.symm.trans eu')
      exact absurd h3 k3
    · obtain rfl : i = i' := (nI_eq (by omega) (by omega)).mp (ex.symm.trans ex')
      obtain rfl : j = j' := (nI_eq (by omega) (by omega)).mp (eu.symm.trans eu')
      obtain rfl := hSh.s hi h4 k4 h6 k6
      obtain rfl := hSh.s hj h5 k5 h7 k7
      exact absurd h8 (by rw [ey, ev, ew, hrn_T k8 h6, hrn_T k9 h7]; decide)
  · rw [hSh.b hi] at h1 h3
    rw [hSh.b hj] at h2 h3
    refine c_Mo_move hSh.sA (fun hE => absurd hE (by rw [ex, eu, wiT hi (by decide), wiT hj (by decide)]; decide)) (fun i' j' hi' hj' ex' eu' k => ?_) (fun i' j' hi' hj' ex' eu' k1 k2 k3 => ?_) (fun i' j' s t hi' hj' ex' eu' k1 k2 k3 k4 k5 k6 k7 k8 => ?_) (fun i' j' s t a' b' k' hi' hj' ex' eu' k1 k2 k3 k4 k5 k6 k7 k8 k9 ey' ev' ew' L14 => ?_)
    · obtain rfl : i = i' := (nI_eq (by omega) (by omega)).mp (ex.symm.trans ex')
      obtain rfl : j = j' := (nI_eq (by omega) (by omega)).mp (eu.symm.trans eu')
      exact k.elim (fun z => absurd z h1) (fun z => absurd z h2)
    · obtain rfl : i = i' := (nI_eq (by omega) (by omega)).mp (ex.symm.trans ex')
      obtain rfl : j = j' := (nI_eq (by omega) (by omega)).mp (eu.symm.trans eu')
      exact absurd h3 k3
    · obtain rfl : i = i' := (nI_eq (by omega) (by omega)).mp (ex.symm.trans ex')
      obtain rfl : j = j' := (nI_eq (by omega) (by omega)).mp (eu.symm.trans eu')
      obtain rfl := hSh.s hi h4 k4 h6 k6
      obtain rfl := hSh.s hj h5 k5 h7 k7
      exact absurd k8 (by rw [ey, ev, ew, hrn_T h8 h6, hrn_T h9 h7]; decide)
    · obtain rfl : i = i' := (nI_eq (by omega) (by omega)).mp (ex.symm.trans ex')
      obtain rfl : j = j' := (nI_eq (by omega) (by omega)).mp (eu.symm.trans eu')
      obtain rfl := hSh.s hi h4 k4 h6 k6
      obtain rfl := hSh.s hj h5 k5 h7 k7
      obtain rfl : a = a' := (nI_eq (by omega) (by omega)).mp (ey.symm.trans ey')
      obtain rfl : b = b' := (nI_eq (by omega) (by omega)).mp (ev.symm.trans ev')
      obtain rfl : k = k' := (nI_eq (by omega) (by omega)).mp (ew.symm.trans ew')
      refine q _ _ _ _ _ _ _ _ _ rfl ((hP.sh (fun a ha => uA_n (by omega)) (fun _ _ _ => rfl) (fun a ha => by rw [uA_n (by omega), uA_n (by omega)]) ?_).r.mm (by omega))
      intro t ht
      obtain ⟨s1, ⟨sz, s2⟩, s3⟩ := hSh t ht
      refine ⟨by rw [uA_n (by decide), uA_n (by decide)]; exact s1, ⟨sz, by rw [uA_n (by decide), uA_n (by decide)]; exact s2⟩, fun o ho => ?_⟩
      show uA R _ _ _ o = uA (uA A 14 L14) 13 _ 13 _
      rw [uA_s]
      by_cases e : t = j
      · subst e
        rw [uA_s]
        by_cases e2 : b ≤ o ∧ o < b + k
        · rw [sgc_in (by omega)]
          unfold va_cpy
          rw [if_pos e2, hSh.d hi (by omega), show 40 * i + (a + (o - b)) = 40 * i + a + (40 * t + o - (40 * t + b)) by omega]
        · rw [sgc_out (by omega)]
          unfold va_cpy
          rw [if_neg e2]; exact s3 o ho
      · rw [uA_n (by omega), sgc_out (by omega)]; exact s3 o ho
set_option maxRecDepth 10000 in
theorem j_feed {l : Launch} {d m n : Nat} {R W Z : Nat → Nat → Int32} {T : Nat → Nat → Nat} {kn : Kn} {D : Nat → Int32} {A : Nat → Nat → Int32} {S : Nat → Int32} {w : Int64} {x : Int32} (hR : Rel m R W Z T kn n D A S) : Ct l M_F_feed (d + 60) 0 0 [.ref 0, .long w, .int x] n (co R W Z T kn (mo 88 D A S hN)) (JN m l M_Mo_feed (d + 60) [.ref 88, .long w, .int x]) := by
  obtain ⟨N, dy, tp, wt, Wc0, len0, V0, l0, Wc1, len1, V1, l1, hP⟩ := id hR
  obtain ⟨hS, hB1, hB2, hK, hT, hPr, hTr, hSh, hEr, hIm, fm, hfm, hfl⟩ := id hP
  obtain ⟨⟨hN8, d0, d1, dy9, hB0, hBD, hAT, hDF⟩, ⟨tp1, tp2, tp3, tp4⟩, ⟨wt1, wt2, wt3, wt4⟩, hQ0, hQ1⟩ := id hS
  have e0 : W 0 0 = nI N := (hAT.lo (by omega)).trans d0
  have hdy : W 0 1 = nI dy := (hAT.lo (by omega)).trans d1
  have hTS : TS D N := fun t ht => ⟨hBD.k0 (by omega), hBD.k2 (by omega), hBD.k3 (by omega)⟩
  have aT : ∀ i k, i < N → k < 7 → W 0 (50 + 7 * i + k) = D (50 + 7 * i + k) := fun i k hi hk => hAT.tr hi hk
  refine c_F_feed tp1 tp2 (fun hE => JN.of hT (fun Q2 q => ?_)) (fun k h1 h8 ex h => JN.of hT (fun Q2 q => ?_)) (fun k h1 h8 ex h => JN.of hT (fun Q2 q => ?_))
  · exact c_Mo_feed tp1 tp3 (fun _ => q _ _ _ _ _ _ _ _ _ rfl (hR.err.mm (by omega))) (fun k h1 h8 ex _ => absurd hE (by rw [ex, wi1T h1 h8 (by decide)]; decide)) (fun k h1 h8 ex _ => absurd hE (by rw [ex, wi1T h1 h8 (by decide)]; decide))
  · refine c_Mo_feed tp1 tp3 (fun hE => absurd hE (by rw [ex, wi1T h1 h8 (by decide)]; decide)) (fun _ _ _ _ _ => q _ _ _ _ _ _ _ _ _ rfl (hR.err.mm (by omega))) (fun k' h1' h8' ex' h' => ?_)
    obtain rfl : k = k' := (nI_eq (by omega) (by omega)).mp (ex.symm.trans ex')
    omega
  · refine c_Mo_feed tp1 tp3 (fun hE => absurd hE (by rw [ex, wi1T h1 h8 (by decide)]; decide)) (fun k' h1' h8' ex' h' => ?_) (fun k' h1' h8' ex' h' => ?_)
    · obtain rfl : k = k' := (nI_eq (by omega) (by omega)).mp (ex.symm.trans ex')
      omega
    · obtain rfl : k = k' := (nI_eq (by omega) (by omega)).mp (ex.symm.trans ex')
      have kk : ∀ j, j ≠ 6 → j < 228 → fdD w tp D k j = D j := fun j a b => by rw [fdD_at, if_neg a, if_neg (by omega)]
      refine q _ _ _ _ _ _ _ _ _ rfl ((hP.e (R' := uA R 2 (fdR w tp (R 2) k)) (W' := W) (Z' := uZ Z 1 1 (nI (tp + k))) (D' := fdD w tp D k) (hS.d (tp' := tp + k) (wt' := wt) (fun j hj => kk j (by omega) (by omega)) ⟨h, uZ_s, by rw [fdD_at, if_pos rfl], fun j hj => ?_⟩ ⟨wt1, wt2, by rw [kk 7 (by omega) (by omega)]; exact wt3, fun j hj => by rw [kk _ (by omega) (by omega)]; exact wt4 j hj⟩ (hQ0.d (fun j hj => kk j (by omega) (by omega))) (hQ1.d (fun j hj => kk j (by omega) (by omega)))) hB1 rfl hK hT (fun a ha => uA_n (by omega)) (fun b j hb => uZ_n (by omega)) (fun _ _ => rfl) (fun _ _ => rfl)).r.mm (by omega))
      show uA R 2 (fdR w tp (R 2) k) 2 j = _ ∧ ∃ c, c < 256 ∧ uA R 2 (fdR w tp (R 2) k) 2 j = nI c
      rw [uA_s, fdD_at, if_neg (by omega), fdR_at]
      by_cases e : tp ≤ j ∧ j < tp + k
      · rw [if_pos e, if_pos (by omega), show 228 + j - (228 + tp) = j - tp by omega]
        exact ⟨rfl, fdb_byte (by omega)⟩
      · rw [if_neg e, if_neg (by omega)]
        exact tp4 j (by omega)
