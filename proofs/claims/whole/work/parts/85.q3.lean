set_option maxRecDepth 100000 in
theorem level_5Q {l : Launch} {R W Z : Nat → Nat → Int32} {T : Nat → Nat → Nat} {kn : Kn} {h0 : HP} {u sz op : Nat} {u2 : PS → PS} {y : Nat} (hu : u < 2) (hu2 : (∀ (n : Nat) (Q : QT) (s : PS) (L : List Nat), s.1 ≤ sz → s.2.2.length ≤ s.1 → RL s L → (∀ L2, RL (u2 s) L2 → Q none n (coQ (uA R (6 + 6 * u + 1) (wrt (R (6 + 6 * u + 1)) 0 (L2))) W (zT Z u (u2 s) (L2).length op) T kn h0)) → Ct l M_Text_readPart y 0 0 [.ref (3 + 6 * u)] n (coQ (uA R (6 + 6 * u + 1) (wrt (R (6 + 6 * u + 1)) 0 (L))) W (zT Z u (s) (L).length op) T kn h0) Q)) : ∀ (n : Nat) (Q : QT) (s : PS) (L : List Nat), s.1 ≤ sz → s.2.2.length ≤ s.1 → RL s L → (∀ L2, RL (u2 s) L2 → Q none n (coQ (uA R (6 + 6 * u + 1) (wrt (R (6 + 6 * u + 1)) 0 (L2))) W (zT Z u (u2 s) (L2).length op) T kn h0)) → Ct l M_Text_readLevel (y + 1) 0 0 [.ref (3 + 6 * u), .int (nI 5)] n (coQ (uA R (6 + 6 * u + 1) (wrt (R (6 + 6 * u + 1)) 0 (L))) W (zT Z u (s) (L).length op) T kn h0) Q := by
  intro n Q s L h1 h2 hR hQ
  refine Ct.of (fun _ => trivial) (by decide) (Nat.le_of_ble_eq_true rfl) ?_
  refine V.iload_n d_Text_readLevel_0 rfl ?_
  refine V.iconst_ (nI 5) d_Text_readLevel_1 (by decide +kernel) ?_
  refine V.ltN (tgt := 10) d_Text_readLevel_2 (by decide) (by omega) (by omega) (fun c_2 => ?_) (fun c_2 => ?_)
  · skip
    exact absurd c_2 (by decide)
  · skip
    refine V.aload_n d_Text_readLevel_5 rfl ?_
    refine V.callV0 d_Text_readLevel_6 k_Text_105_Text_readPart_TextV (co_sQ (sc_txQ (tx_dsQ u hu).1)) (Nat.le_of_ble_eq_true rfl) (by omega) (by omega) (hu2 _ _ s L h1 h2 hR (fun L2 hR2 => ?_))
    refine V.vret d_Text_readLevel_9 rfl (Nat.le_of_ble_eq_true rfl) (Nat.le_of_ble_eq_true rfl) ?_
    exact hQ L2 hR2
set_option maxRecDepth 100000 in
theorem lev4_loopQ {l : Launch} {R W Z : Nat → Nat → Int32} {T : Nat → Nat → Nat} {kn : Kn} {h0 : HP} {u sz op : Nat} {u2 : PS → PS} {y n : Nat} {Q : QT} (hu : u < 2) (hsz : sz ≤ 50) (hz : Z 1 1 = nI sz) (hB : ∀ j, j < sz → ∃ c, c < 256 ∧ R 2 j = nI c) (gu : Gp sz u2) (hu2 : (∀ (n : Nat) (Q : QT) (s : PS) (L : List Nat), s.1 ≤ sz → s.2.2.length ≤ s.1 → RL s L → (∀ L2, RL (u2 s) L2 → Q none n (coQ (uA R (6 + 6 * u + 1) (wrt (R (6 + 6 * u + 1)) 0 (L2))) W (zT Z u (u2 s) (L2).length op) T kn h0)) → Ct l M_Text_readLevel (y + 5) 0 0 [.ref (3 + 6 * u), .int (nI 5)] n (coQ (uA R (6 + 6 * u + 1) (wrt (R (6 + 6 * u + 1)) 0 (L))) W (zT Z u (s) (L).length op) T kn h0) Q)) : ∀ (k i : Nat) (s : PS) (L : List Nat), i + k = 50 → s.1 ≤ sz → s.2.2.length ≤ s.1 → RL s L → (∀ L2, RL (lp (R 2) sz sg4 u2 k s) L2 → Q none n (coQ (uA R (6 + 6 * u + 1) (wrt (R (6 + 6 * u + 1)) 0 (L2))) W (zT Z u (lp (R 2) sz sg4 u2 k s) (L2).length op) T kn h0)) → V l M_Text_readLevel (y + 6) 0 0 31 [(0, .ref (3 + 6 * u)), (1, .int (nI 4)), (2, .int (nI 50)), (3, .int (nI i))] [] n (coQ (uA R (6 + 6 * u + 1) (wrt (R (6 + 6 * u + 1)) 0 (L))) W (zT Z u (s) (L).length op) T kn h0) 0 0 Q := by
  intro k
  induction k with
  | zero =>
    intro i s L hik h1 h2 hR hQ
    refine V.iload_n d_Text_readLevel_31 rfl ?_
    refine V.iload_n d_Text_readLevel_32 rfl ?_
    refine V.geN (tgt := 80) d_Text_readLevel_33 (by decide) (by omega) (by omega) (fun c_33 => ?_) (fun c_33 => ?_)
    · skip
      refine V.vret d_Text_readLevel_80 rfl (Nat.le_of_ble_eq_true rfl) (Nat.le_of_ble_eq_true rfl) ?_
      exact hQ L hR
    · skip
      exact absurd c_33 (by omega)
  | succ k ih =>
    intro i s L hik h1 h2 hR hQ
    refine V.iload_n d_Text_readLevel_31 rfl ?_
    refine V.iload_n d_Text_readLevel_32 rfl ?_
    refine V.geN (tgt := 80) d_Text_readLevel_33 (by decide) (by omega) (by omega) (fun c_33 => ?_) (fun c_33 => ?_)
    · skip
      exact absurd c_33 (by omega)
    · skip
      refine V.aload_n d_Text_readLevel_36 rfl ?_
      refine V.iload_n d_Text_readLevel_37 rfl ?_
      refine V.callS1 d_Text_readLevel_38 k_Text_108_Text_signsOfS (Nat.le_of_ble_eq_true rfl) (by omega) (by omega) (c_Text_signsOf (by decide) ?_)
      refine V.callV1 d_Text_readLevel_41 k_Text_112_Text_taken_TextV (co_sQ (sc_txQ (tx_dsQ u hu).1)) (Nat.le_of_ble_eq_true rfl) (by omega) (by omega) (c_Text_takenQ (i := 8) (s := s) (by decide) (by decide) hu hsz hz hB h1 (fun hs => ?_) (fun hs => ?_))
      · skip
        have hsg : sg4 (hr (R 2) sz s) = true := hs
        obtain ⟨c, hc, ec, -, -⟩ := sg_nat (by first | exact Or.inl rfl | exact Or.inr (Or.inl rfl) | exact Or.inr (Or.inr (Or.inl rfl)) | exact Or.inr (Or.inr (Or.inr (Or.inl rfl))) | exact Or.inr (Or.inr (Or.inr (Or.inr rfl)))) hsg
        have hx := (hr_lt (by omega) ec).1
        have hxf := (hr_lt (by omega) ec).2
        obtain ⟨g1, g2, g3⟩ := gu (adv s) hx
        have ga : (adv s).1 = s.1 + 1 := rfl
        have gb : (adv s).2.2 = s.2.2 := rfl
        rw [ga] at g1 g3
        rw [gb] at g3
        have etn : (hr (R 2) sz s).toNatClampNeg < 200 := by rw [ec, icl (by omega)]; exact hc
        refine V.top (y := nI (hr (R 2) sz s).toNatClampNeg) (tn_nI (by omega) ec) ?_
        rw [show lp (R 2) sz sg4 u2 (k + 1) s = lp (R 2) sz sg4 u2 k (ly (20000 + (hr (R 2) sz s).toNatClampNeg) (u2 (adv s))) from if_pos hsg] at hQ
        refine V.istore d_Text_readLevel_44 (by decide) ?_
        refine V.iload d_Text_readLevel_46 rfl ?_
        refine V.if_ge (tgt := 54) d_Text_readLevel_48 (by decide) (fun c_48 => ?_) (fun c_48 => ?_)
        · skip
          refine V.aload_n d_Text_readLevel_54 rfl ?_
          refine V.iload_n d_Text_readLevel_55 rfl ?_
          refine V.iconst_ (nI 1) d_Text_readLevel_56 (by decide +kernel) ?_
          refine V.addN d_Text_readLevel_57 ?_
          refine V.callV1 d_Text_readLevel_58 k_Text_86_Text_readLevel_TextV (co_sQ (sc_txQ (tx_dsQ u hu).1)) (Nat.le_of_ble_eq_true rfl) (by omega) (by omega) (hu2 _ _ (adv s) L hx (by show s.2.2.length ≤ s.1 + 1; omega) hR (fun L2 hR2 => ?_))
          refine V.aload_n d_Text_readLevel_61 rfl ?_
          refine V.get d_Text_readLevel_62 f_Text_20_Text (co_sQ (sc_txQ (tx_dsQ u hu).1)) rfl ?_
          refine V.sipush_ (nI 20000) d_Text_readLevel_65 (by decide +kernel) ?_
          refine V.iload d_Text_readLevel_68 rfl ?_
          refine V.addN d_Text_readLevel_70 ?_
          refine V.callV1 d_Text_readLevel_71 k_Text_64_Row_add_RowV (co_sQ (sc_rwQ (tx_dsQ u hu).2.2.2.1)) (Nat.le_of_ble_eq_true rfl) (by omega) (by omega) (c_draftQ (v := 20000 + (hr (R 2) sz s).toNatClampNeg) (s := u2 (adv s)) hu hR2 (fun _ => by omega) (fun L3 hR3 => ?_))
          refine V.incN d_Text_readLevel_74 rfl (by decide) ?_
          refine V.goto (tgt := 31) d_Text_readLevel_77 (by decide) ?_
          have e9 := ly_len (w := 20000 + (hr (R 2) sz s).toNatClampNeg) (s := u2 (adv s))
          refine V.lc rfl (ih (i + 1) _ L3 (by omega) (by rw [ly_1]; exact g2) (by rw [ly_1]; omega) hR3 hQ)
        · skip
          exact absurd ((nI_leI (a := 0) (by decide) (by omega)).mpr (Nat.zero_le _)) c_48
      · skip
        rw [show lp (R 2) sz sg4 u2 (k + 1) s = s from if_neg (by show ¬ sg4 (hr (R 2) sz s) = true; exact Bool.eq_false_iff.mp hs)] at hQ
        refine V.istore d_Text_readLevel_44 (by decide) ?_
        refine V.iload d_Text_readLevel_46 rfl ?_
        refine V.if_ge (tgt := 54) d_Text_readLevel_48 (by decide) (fun c_48 => ?_) (fun c_48 => ?_)
        · skip
          exact absurd c_48 (by decide +kernel)
        · skip
          refine V.goto (tgt := 80) d_Text_readLevel_51 (by decide) ?_
          refine V.vret d_Text_readLevel_80 rfl (Nat.le_of_ble_eq_true rfl) (Nat.le_of_ble_eq_true rfl) ?_
          exact hQ L hR
set_option maxRecDepth 100000 in
theorem level_4Q {l : Launch} {R W Z : Nat → Nat → Int32} {T : Nat → Nat → Nat} {kn : Kn} {h0 : HP} {u sz op : Nat} {u2 : PS → PS} {y : Nat} (hu : u < 2) (hsz : sz ≤ 50) (hz : Z 1 1 = nI sz) (hB : ∀ j, j < sz → ∃ c, c < 256 ∧ R 2 j = nI c) (gu : Gp sz u2) (hu2 : (∀ (n : Nat) (Q : QT) (s : PS) (L : List Nat), s.1 ≤ sz → s.2.2.length ≤ s.1 → RL s L → (∀ L2, RL (u2 s) L2 → Q none n (coQ (uA R (6 + 6 * u + 1) (wrt (R (6 + 6 * u + 1)) 0 (L2))) W (zT Z u (u2 s) (L2).length op) T kn h0)) → Ct l M_Text_readLevel (y + 5) 0 0 [.ref (3 + 6 * u), .int (nI 5)] n (coQ (uA R (6 + 6 * u + 1) (wrt (R (6 + 6 * u + 1)) 0 (L))) W (zT Z u (s) (L).length op) T kn h0) Q)) : ∀ (n : Nat) (Q : QT) (s : PS) (L : List Nat), s.1 ≤ sz → s.2.2.length ≤ s.1 → RL s L → (∀ L2, RL (lp (R 2) sz sg4 u2 50 (u2 s)) L2 → Q none n (coQ (uA R (6 + 6 * u + 1) (wrt (R (6 + 6 * u + 1)) 0 (L2))) W (zT Z u (lp (R 2) sz sg4 u2 50 (u2 s)) (L2).length op) T kn h0)) → Ct l M_Text_readLevel (y + 6) 0 0 [.ref (3 + 6 * u), .int (nI 4)] n (coQ (uA R (6 + 6 * u + 1) (wrt (R (6 + 6 * u + 1)) 0 (L))) W (zT Z u (s) (L).length op) T kn h0) Q := by
  intro n Q s L h1 h2 hR hQ
  obtain ⟨g1, g2, g3⟩ := gu s h1
  refine Ct.of (fun _ => trivial) (by decide) (Nat.le_of_ble_eq_true rfl) ?_
  refine V.iload_n d_Text_readLevel_0 rfl ?_
  refine V.iconst_ (nI 5) d_Text_readLevel_1 (by decide +kernel) ?_
  refine V.ltN (tgt := 10) d_Text_readLevel_2 (by decide) (by omega) (by omega) (fun c_2 => ?_) (fun c_2 => ?_)
  · skip
    refine V.aload_n d_Text_readLevel_10 rfl ?_
    refine V.iload_n d_Text_readLevel_11 rfl ?_
    refine V.iconst_ (nI 1) d_Text_readLevel_12 (by decide +kernel) ?_
    refine V.addN d_Text_readLevel_13 ?_
    refine V.callV1 d_Text_readLevel_14 k_Text_86_Text_readLevel_TextV (co_sQ (sc_txQ (tx_dsQ u hu).1)) (Nat.le_of_ble_eq_true rfl) (by omega) (by omega) (hu2 _ _ s L h1 h2 hR (fun L2 hR2 => ?_))
    refine V.iload_n d_Text_readLevel_17 rfl ?_
    refine V.iconst_ (nI 2) d_Text_readLevel_18 (by decide +kernel) ?_
    refine V.neN (tgt := 26) d_Text_readLevel_19 (by decide) (by omega) (by omega) (fun c_19 => ?_) (fun c_19 => ?_)
    · skip
      refine V.bipush_ (nI 50) d_Text_readLevel_26 (by decide +kernel) ?_
      refine V.istore_n d_Text_readLevel_28 (by decide) ?_
      refine V.iconst_ (nI 0) d_Text_readLevel_29 (by decide +kernel) ?_
      refine V.istore_n d_Text_readLevel_30 (by decide) ?_
      exact V.lc rfl (lev4_loopQ hu hsz hz hB gu hu2 50 0 (u2 s) L2 (by omega) g2 (by omega) hR2 hQ)
    · skip
      exact absurd c_19 (by decide)
  · skip
    exact absurd c_2 (by decide)
set_option maxRecDepth 100000 in
theorem lev3_loopQ {l : Launch} {R W Z : Nat → Nat → Int32} {T : Nat → Nat → Nat} {kn : Kn} {h0 : HP} {u sz op : Nat} {u2 : PS → PS} {y n : Nat} {Q : QT} (hu : u < 2) (hsz : sz ≤ 50) (hz : Z 1 1 = nI sz) (hB : ∀ j, j < sz → ∃ c, c < 256 ∧ R 2 j = nI c) (gu : Gp sz u2) (hu2 : (∀ (n : Nat) (Q : QT) (s : PS) (L : List Nat), s.1 ≤ sz → s.2.2.length ≤ s.1 → RL s L → (∀ L2, RL (u2 s) L2 → Q none n (coQ (uA R (6 + 6 * u + 1) (wrt (R (6 + 6 * u + 1)) 0 (L2))) W (zT Z u (u2 s) (L2).length op) T kn h0)) → Ct l M_Text_readLevel (y + 5) 0 0 [.ref (3 + 6 * u), .int (nI 4)] n (coQ (uA R (6 + 6 * u + 1) (wrt (R (6 + 6 * u + 1)) 0 (L))) W (zT Z u (s) (L).length op) T kn h0) Q)) : ∀ (k i : Nat) (s : PS) (L : List Nat), i + k = 50 → s.1 ≤ sz → s.2.2.length ≤ s.1 → RL s L → (∀ L2, RL (lp (R 2) sz sg3 u2 k s) L2 → Q none n (coQ (uA R (6 + 6 * u + 1) (wrt (R (6 + 6 * u + 1)) 0 (L2))) W (zT Z u (lp (R 2) sz sg3 u2 k s) (L2).length op) T kn h0)) → V l M_Text_readLevel (y + 6) 0 0 31 [(0, .ref (3 + 6 * u)), (1, .int (nI 3)), (2, .int (nI 50)), (3, .int (nI i))] [] n (coQ (uA R (6 + 6 * u + 1) (wrt (R (6 + 6 * u + 1)) 0 (L))) W (zT Z u (s) (L).length op) T kn h0) 0 0 Q := by
  intro k
  induction k with
  | zero =>
    intro i s L hik h1 h2 hR hQ
    refine V.iload_n d_Text_readLevel_31 rfl ?_
    refine V.iload_n d_Text_readLevel_32 rfl ?_
    refine V.geN (tgt := 80) d_Text_readLevel_33 (by decide) (by omega) (by omega) (fun c_33 => ?_) (fun c_33 => ?_)
    · skip
      refine V.vret d_Text_readLevel_80 rfl (Nat.le_of_ble_eq_true rfl) (Nat.le_of_ble_eq_true rfl) ?_
      exact hQ L hR
    · skip
      exact absurd c_33 (by omega)
  | succ k ih =>
    intro i s L hik h1 h2 hR hQ
    refine V.iload_n d_Text_readLevel_31 rfl ?_
    refine V.iload_n d_Text_readLevel_32 rfl ?_
    refine V.geN (tgt := 80) d_Text_readLevel_33 (by decide) (by omega) (by omega) (fun c_33 => ?_) (fun c_33 => ?_)
    · skip
      exact absurd c_33 (by omega)
    · skip
      refine V.aload_n d_Text_readLevel_36 rfl ?_
      refine V.iload_n d_Text_readLevel_37 rfl ?_
      refine V.callS1 d_Text_readLevel_38 k_Text_108_Text_signsOfS (Nat.le_of_ble_eq_true rfl) (by omega) (by omega) (c_Text_signsOf (by decide) ?_)
      refine V.callV1 d_Text_readLevel_41 k_Text_112_Text_taken_TextV (co_sQ (sc_txQ (tx_dsQ u hu).1)) (Nat.le_of_ble_eq_true rfl) (by omega) (by omega) (c_Text_takenQ (i := 7) (s := s) (by decide) (by decide) hu hsz hz hB h1 (fun hs => ?_) (fun hs => ?_))
      · skip
        have hsg : sg3 (hr (R 2) sz s) = true := hs
        obtain ⟨c, hc, ec, -, -⟩ := sg_nat (by first | exact Or.inl rfl | exact Or.inr (Or.inl rfl) | exact Or.inr (Or.inr (Or.inl rfl)) | exact Or.inr (Or.inr (Or.inr (Or.inl rfl))) | exact Or.inr (Or.inr (Or.inr (Or.inr rfl)))) hsg
        have hx := (hr_lt (by omega) ec).1
        have hxf := (hr_lt (by omega) ec).2
        obtain ⟨g1, g2, g3⟩ := gu (adv s) hx
        have ga : (adv s).1 = s.1 + 1 := rfl
        have gb : (adv s).2.2 = s.2.2 := rfl
        rw [ga] at g1 g3
        rw [gb] at g3
        have etn : (hr (R 2) sz s).toNatClampNeg < 200 := by rw [ec, icl (by omega)]; exact hc
        refine V.top (y := nI (hr (R 2) sz s).toNatClampNeg) (tn_nI (by omega) ec) ?_
        rw [show lp (R 2) sz sg3 u2 (k + 1) s = lp (R 2) sz sg3 u2 k (ly (20000 + (hr (R 2) sz s).toNatClampNeg) (u2 (adv s))) from if_pos hsg] at hQ
        refine V.istore d_Text_readLevel_44 (by decide) ?_
        refine V.iload d_Text_readLevel_46 rfl ?_
        refine V.if_ge (tgt := 54) d_Text_readLevel_48 (by decide) (fun c_48 => ?_) (fun c_48 => ?_)
        · skip
          refine V.aload_n d_Text_readLevel_54 rfl ?_
          refine V.iload_n d_Text_readLevel_55 rfl ?_
          refine V.iconst_ (nI 1) d_Text_readLevel_56 (by decide +kernel) ?_
          refine V.addN d_Text_readLevel_57 ?_
          refine V.callV1 d_Text_readLevel_58 k_Text_86_Text_readLevel_TextV (co_sQ (sc_txQ (tx_dsQ u hu).1)) (Nat.le_of_ble_eq_true rfl) (by omega) (by omega) (hu2 _ _ (adv s) L hx (by show s.2.2.length ≤ s.1 + 1; omega) hR (fun L2 hR2 => ?_))
          refine V.aload_n d_Text_readLevel_61 rfl ?_
          refine V.get d_Text_readLevel_62 f_Text_20_Text (co_sQ (sc_txQ (tx_dsQ u hu).1)) rfl ?_
          refine V.sipush_ (nI 20000) d_Text_readLevel_65 (by decide +kernel) ?_
          refine V.iload d_Text_readLevel_68 rfl ?_
          refine V.addN d_Text_readLevel_70 ?_
          refine V.callV1 d_Text_readLevel_71 k_Text_64_Row_add_RowV (co_sQ (sc_rwQ (tx_dsQ u hu).2.2.2.1)) (Nat.le_of_ble_eq_true rfl) (by omega) (by omega) (c_draftQ (v := 20000 + (hr (R 2) sz s).toNatClampNeg) (s := u2 (adv s)) hu hR2 (fun _ => by omega) (fun L3 hR3 => ?_))
          refine V.incN d_Text_readLevel_74 rfl (by decide) ?_
          refine V.goto (tgt := 31) d_Text_readLevel_77 (by decide) ?_
          have e9 := ly_len (w := 20000 + (hr (R 2) sz s).toNatClampNeg) (s := u2 (adv s))
          refine V.lc rfl (ih (i + 1) _ L3 (by omega) (by rw [ly_1]; exact g2) (by rw [ly_1]; omega) hR3 hQ)
        · skip
          exact absurd ((nI_leI (a := 0) (by decide) (by omega)).mpr (Nat.zero_le _)) c_48
      · skip
        rw [show lp (R 2) sz sg3 u2 (k + 1) s = s from if_neg (by show ¬ sg3 (hr (R 2) sz s) = true; exact Bool.eq_false_iff.mp hs)] at hQ
        refine V.istore d_Text_readLevel_44 (by decide) ?_
        refine V.iload d_Text_readLevel_46 rfl ?_
        refine V.if_ge (tgt := 54) d_Text_readLevel_48 (by decide) (fun c_48 => ?_) (fun c_48 => ?_)
        · skip
          exact absurd c_48 (by decide +kernel)
        · skip
          refine V.goto (tgt := 80) d_Text_readLevel_51 (by decide) ?_
          refine V.vret d_Text_readLevel_80 rfl (Nat.le_of_ble_eq_true rfl) (Nat.le_of_ble_eq_true rfl) ?_
          exact hQ L hR
set_option maxRecDepth 100000 in
theorem level_3Q {l : Launch} {R W Z : Nat → Nat → Int32} {T : Nat → Nat → Nat} {kn : Kn} {h0 : HP} {u sz op : Nat} {u2 : PS → PS} {y : Nat} (hu : u < 2) (hsz : sz ≤ 50) (hz : Z 1 1 = nI sz) (hB : ∀ j, j < sz → ∃ c, c < 256 ∧ R 2 j = nI c) (gu : Gp sz u2) (hu2 : (∀ (n : Nat) (Q : QT) (s : PS) (L : List Nat), s.1 ≤ sz → s.2.2.length ≤ s.1 → RL s L → (∀ L2, RL (u2 s) L2 → Q none n (coQ (uA R (6 + 6 * u + 1) (wrt (R (6 + 6 * u + 1)) 0 (L2))) W (zT Z u (u2 s) (L2).length op) T kn h0)) → Ct l M_Text_readLevel (y + 5) 0 0 [.ref (3 + 6 * u), .int (nI 4)] n (coQ (uA R (6 + 6 * u + 1) (wrt (R (6 + 6 * u + 1)) 0 (L))) W (zT Z u (s) (L).length op) T kn h0) Q)) : ∀ (n : Nat) (Q : QT) (s : PS) (L : List Nat), s.1 ≤ sz → s.2.2.length ≤ s.1 → RL s L → (∀ L2, RL (lp (R 2) sz sg3 u2 50 (u2 s)) L2 → Q none n (coQ (uA R (6 + 6 * u + 1) (wrt (R (6 + 6 * u + 1)) 0 (L2))) W (zT Z u (lp (R 2) sz sg3 u2 50 (u2 s)) (L2).length op) T kn h0)) → Ct l M_Text_readLevel (y + 6) 0 0 [.ref (3 + 6 * u), .int (nI 3)] n (coQ (uA R (6 + 6 * u + 1) (wrt (R (6 + 6 * u + 1)) 0 (L))) W (zT Z u (s) (L).length op) T kn h0) Q := by
  intro n Q s L h1 h2 hR hQ
  obtain ⟨g1, g2, g3⟩ := gu s h1
  refine Ct.of (fun _ => trivial) (by decide) (Nat.le_of_ble_eq_true rfl) ?_
  refine V.iload_n d_Text_readLevel_0 rfl ?_
  refine V.iconst_ (nI 5) d_Text_readLevel_1 (by decide +kernel) ?_
  refine V.ltN (tgt := 10) d_Text_readLevel_2 (by decide) (by omega) (by omega) (fun c_2 => ?_) (fun c_2 => ?_)
  · skip
    refine V.aload_n d_Text_readLevel_10 rfl ?_
    refine V.iload_n d_Text_readLevel_11 rfl ?_
    refine V.iconst_ (nI 1) d_Text_readLevel_12 (by decide +kernel) ?_
    refine V.addN d_Text_readLevel_13 ?_
    refine V.callV1 d_Text_readLevel_14 k_Text_86_Text_readLevel_TextV (co_sQ (sc_txQ (tx_dsQ u hu).1)) (Nat.le_of_ble_eq_true rfl) (by omega) (by omega) (hu2 _ _ s L h1 h2 hR (fun L2 hR2 => ?_))
    refine V.iload_n d_Text_readLevel_17 rfl ?_
    refine V.iconst_ (nI 2) d_Text_readLevel_18 (by decide +kernel) ?_
    refine V.neN (tgt := 26) d_Text_readLevel_19 (by decide) (by omega) (by omega) (fun c_19 => ?_) (fun c_19 => ?_)
    · skip
      refine V.bipush_ (nI 50) d_Text_readLevel_26 (by decide +kernel) ?_
      refine V.istore_n d_Text_readLevel_28 (by decide) ?_
      refine V.iconst_ (nI 0) d_Text_readLevel_29 (by decide +kernel) ?_
      refine V.istore_n d_Text_readLevel_30 (by decide) ?_
      exact V.lc rfl (lev3_loopQ hu hsz hz hB gu hu2 50 0 (u2 s) L2 (by omega) g2 (by omega) hR2 hQ)
    · skip
      exact absurd c_19 (by decide)
  · skip
    exact absurd c_2 (by decide)
set_option maxRecDepth 100000 in
theorem lev2_loopQ {l : Launch} {R W Z : Nat → Nat → Int32} {T : Nat → Nat → Nat} {kn : Kn} {h0 : HP} {u sz op : Nat} {u2 : PS → PS} {y n : Nat} {Q : QT} (hu : u < 2) (hsz : sz ≤ 50) (hz : Z 1 1 = nI sz) (hB : ∀ j, j < sz → ∃ c, c < 256 ∧ R 2 j = nI c) (gu : Gp sz u2) (hu2 : (∀ (n : Nat) (Q : QT) (s : PS) (L : List Nat), s.1 ≤ sz → s.2.2.length ≤ s.1 → RL s L → (∀ L2, RL (u2 s) L2 → Q none n (coQ (uA R (6 + 6 * u + 1) (wrt (R (6 + 6 * u + 1)) 0 (L2))) W (zT Z u (u2 s) (L2).length op) T kn h0)) → Ct l M_Text_readLevel (y + 5) 0 0 [.ref (3 + 6 * u), .int (nI 3)] n (coQ (uA R (6 + 6 * u + 1) (wrt (R (6 + 6 * u + 1)) 0 (L))) W (zT Z u (s) (L).length op) T kn h0) Q)) : ∀ (k i : Nat) (s : PS) (L : List Nat), i + k = 1 → s.1 ≤ sz → s.2.2.length ≤ s.1 → RL s L → (∀ L2, RL (lp (R 2) sz sg2 u2 k s) L2 → Q none n (coQ (uA R (6 + 6 * u + 1) (wrt (R (6 + 6 * u + 1)) 0 (L2))) W (zT Z u (lp (R 2) sz sg2 u2 k s) (L2).length op) T kn h0)) → V l M_Text_readLevel (y + 6) 0 0 31 [(0, .ref (3 + 6 * u)), (1, .int (nI 2)), (2, .int (nI 1)), (3, .int (nI i))] [] n (coQ (uA R (6 + 6 * u + 1) (wrt (R (6 + 6 * u + 1)) 0 (L))) W (zT Z u (s) (L).length op) T kn h0) 0 0 Q := by
  intro k
  induction k with
  | zero =>
    intro i s L hik h1 h2 hR hQ
    refine V.iload_n d_Text_readLevel_31 rfl ?_
    refine V.iload_n d_Text_readLevel_32 rfl ?_
    refine V.geN (tgt := 80) d_Text_readLevel_33 (by decide) (by omega) (by omega) (fun c_33 => ?_) (fun c_33 => ?_)
    · skip
      refine V.vret d_Text_readLevel_80 rfl (Nat.le_of_ble_eq_true rfl) (Nat.le_of_ble_eq_true rfl) ?_
      exact hQ L hR
    · skip
      exact absurd c_33 (by omega)
  | succ k ih =>
    intro i s L hik h1 h2 hR hQ
    refine V.iload_n d_Text_readLevel_31 rfl ?_
    refine V.iload_n d_Text_readLevel_32 rfl ?_
    refine V.geN (tgt := 80) d_Text_readLevel_33 (by decide) (by omega) (by omega) (fun c_33 => ?_) (fun c_33 => ?_)
    · skip
      exact absurd c_33 (by omega)
    · skip
      refine V.aload_n d_Text_readLevel_36 rfl ?_
      refine V.iload_n d_Text_readLevel_37 rfl ?_
      refine V.callS1 d_Text_readLevel_38 k_Text_108_Text_signsOfS (Nat.le_of_ble_eq_true rfl) (by omega) (by omega) (c_Text_signsOf (by decide) ?_)
      refine V.callV1 d_Text_readLevel_41 k_Text_112_Text_taken_TextV (co_sQ (sc_txQ (tx_dsQ u hu).1)) (Nat.le_of_ble_eq_true rfl) (by omega) (by omega) (c_Text_takenQ (i := 6) (s := s) (by decide) (by decide) hu hsz hz hB h1 (fun hs => ?_) (fun hs => ?_))
      · skip
        have hsg : sg2 (hr (R 2) sz s) = true := hs
        obtain ⟨c, hc, ec, -, -⟩ := sg_nat (by first | exact Or.inl rfl | exact Or.inr (Or.inl rfl) | exact Or.inr (Or.inr (Or.inl rfl)) | exact Or.inr (Or.inr (Or.inr (Or.inl rfl))) | exact Or.inr (Or.inr (Or.inr (Or.inr rfl)))) hsg
        have hx := (hr_lt (by omega) ec).1
        have hxf := (hr_lt (by omega) ec).2
        obtain ⟨g1, g2, g3⟩ := gu (adv s) hx
        have ga : (adv s).1 = s.1 + 1 := rfl
        have gb : (adv s).2.2 = s.2.2 := rfl
        rw [ga] at g1 g3
        rw [gb] at g3
        have etn : (hr (R 2) sz s).toNatClampNeg < 200 := by rw [ec, icl (by omega)]; exact hc
        refine V.top (y := nI (hr (R 2) sz s).toNatClampNeg) (tn_nI (by omega) ec) ?_
        rw [show lp (R 2) sz sg2 u2 (k + 1) s = lp (R 2) sz sg2 u2 k (ly (20000 + (hr (R 2) sz s).toNatClampNeg) (u2 (adv s))) from if_pos hsg] at hQ
        refine V.istore d_Text_readLevel_44 (by decide) ?_
        refine V.iload d_Text_readLevel_46 rfl ?_
        refine V.if_ge (tgt := 54) d_Text_readLevel_48 (by decide) (fun c_48 => ?_) (fun c_48 => ?_)
        · skip
          refine V.aload_n d_Text_readLevel_54 rfl ?_
          refine V.iload_n d_Text_readLevel_55 rfl ?_
          refine V.iconst_ (nI 1) d_Text_readLevel_56 (by decide +kernel) ?_
          refine V.addN d_Text_readLevel_57 ?_
          refine V.callV1 d_Text_readLevel_58 k_Text_86_Text_readLevel_TextV (co_sQ (sc_txQ (tx_dsQ u hu).1)) (Nat.le_of_ble_eq_true rfl) (by omega) (by omega) (hu2 _ _ (adv s) L hx (by show s.2.2.length ≤ s.1 + 1; omega) hR (fun L2 hR2 => ?_))
          refine V.aload_n d_Text_readLevel_61 rfl ?_
          refine V.get d_Text_readLevel_62 f_Text_20_Text (co_sQ (sc_txQ (tx_dsQ u hu).1)) rfl ?_
          refine V.sipush_ (nI 20000) d_Text_readLevel_65 (by decide +kernel) ?_
          refine V.iload d_Text_readLevel_68 rfl ?_
          refine V.addN d_Text_readLevel_70 ?_
          refine V.callV1 d_Text_readLevel_71 k_Text_64_Row_add_RowV (co_sQ (sc_rwQ (tx_dsQ u hu).2.2.2.1)) (Nat.le_of_ble_eq_true rfl) (by omega) (by omega) (c_draftQ (v := 20000 + (hr (R 2) sz s).toNatClampNeg) (s := u2 (adv s)) hu hR2 (fun _ => by omega) (fun L3 hR3 => ?_))
          refine V.incN d_Text_readLevel_74 rfl (by decide) ?_
          refine V.goto (tgt := 31) d_Text_readLevel_77 (by decide) ?_
          have e9 := ly_len (w := 20000 + (hr (R 2) sz s).toNatClampNeg) (s := u2 (adv s))
          refine V.lc rfl (ih (i + 1) _ L3 (by omega) (by rw [ly_1]; exact g2) (by rw [ly_1]; omega) hR3 hQ)
        · skip
          exact absurd ((nI_leI (a := 0) (by decide) (by omega)).mpr (Nat.zero_le _)) c_48
      · skip
        rw [show lp (R 2) sz sg2 u2 (k + 1) s = s from if_neg (by show ¬ sg2 (hr (R 2) sz s) = true; exact Bool.eq_false_iff.mp hs)] at hQ
        refine V.istore d_Text_readLevel_44 (by decide) ?_
        refine V.iload d_Text_readLevel_46 rfl ?_
        refine V.if_ge (tgt := 54) d_Text_readLevel_48 (by decide) (fun c_48 => ?_) (fun c_48 => ?_)
        · skip
          exact absurd c_48 (by decide +kernel)
        · skip
          refine V.goto (tgt := 80) d_Text_readLevel_51 (by decide) ?_
          refine V.vret d_Text_readLevel_80 rfl (Nat.le_of_ble_eq_true rfl) (Nat.le_of_ble_eq_true rfl) ?_
          exact hQ L hR
set_option maxRecDepth 100000 in
theorem level_2Q {l : Launch} {R W Z : Nat → Nat → Int32} {T : Nat → Nat → Nat} {kn : Kn} {h0 : HP} {u sz op : Nat} {u2 : PS → PS} {y : Nat} (hu : u < 2) (hsz : sz ≤ 50) (hz : Z 1 1 = nI sz) (hB : ∀ j, j < sz → ∃ c, c < 256 ∧ R 2 j = nI c) (gu : Gp sz u2) (hu2 : (∀ (n : Nat) (Q : QT) (s : PS) (L : List Nat), s.1 ≤ sz → s.2.2.length ≤ s.1 → RL s L → (∀ L2, RL (u2 s) L2 → Q none n (coQ (uA R (6 + 6 * u + 1) (wrt (R (6 + 6 * u + 1)) 0 (L2))) W (zT Z u (u2 s) (L2).length op) T kn h0)) → Ct l M_Text_readLevel (y + 5) 0 0 [.ref (3 + 6 * u), .int (nI 3)] n (coQ (uA R (6 + 6 * u + 1) (wrt (R (6 + 6 * u + 1)) 0 (L))) W (zT Z u (s) (L).length op) T kn h0) Q)) : ∀ (n : Nat) (Q : QT) (s : PS) (L : List Nat), s.1 ≤ sz → s.2.2.length ≤ s.1 → RL s L → (∀ L2, RL (lp (R 2) sz sg2 u2 1 (u2 s)) L2 → Q none n (coQ (uA R (6 + 6 * u + 1) (wrt (R (6 + 6 * u + 1)) 0 (L2))) W (zT Z u (lp (R 2) sz sg2 u2 1 (u2 s)) (L2).length op) T kn h0)) → Ct l M_Text_readLevel (y + 6) 0 0 [.ref (3 + 6 * u), .int (nI 2)] n (coQ (uA R (6 + 6 * u + 1) (wrt (R (6 + 6 * u + 1)) 0 (L))) W (zT Z u (s) (L).length op) T kn h0) Q := by
  intro n Q s L h1 h2 hR hQ
  obtain ⟨g1, g2, g3⟩ := gu s h1
  refine Ct.of (fun _ => trivial) (by decide) (Nat.le_of_ble_eq_true rfl) ?_
  refine V.iload_n d_Text_readLevel_0 rfl ?_
  refine V.iconst_ (nI 5) d_Text_readLevel_1 (by decide +kernel) ?_
  refine V.ltN (tgt := 10) d_Text_readLevel_2 (by decide) (by omega) (by omega) (fun c_2 => ?_) (fun c_2 => ?_)
  · skip
    refine V.aload_n d_Text_readLevel_10 rfl ?_
    refine V.iload_n d_Text_readLevel_11 rfl ?_
    refine V.iconst_ (nI 1) d_Text_readLevel_12 (by decide +kernel) ?_
    refine V.addN d_Text_readLevel_13 ?_
    refine V.callV1 d_Text_readLevel_14 k_Text_86_Text_readLevel_TextV (co_sQ (sc_txQ (tx_dsQ u hu).1)) (Nat.le_of_ble_eq_true rfl) (by omega) (by omega) (hu2 _ _ s L h1 h2 hR (fun L2 hR2 => ?_))
    refine V.iload_n d_Text_readLevel_17 rfl ?_
    refine V.iconst_ (nI 2) d_Text_readLevel_18 (by decide +kernel) ?_
    refine V.neN (tgt := 26) d_Text_readLevel_19 (by decide) (by omega) (by omega) (fun c_19 => ?_) (fun c_19 => ?_)
    · skip
      exact absurd rfl c_19
    · skip
      refine V.iconst_ (nI 1) d_Text_readLevel_22 (by decide +kernel) ?_
      refine V.goto (tgt := 28) d_Text_readLevel_23 (by decide) ?_
      refine V.istore_n d_Text_readLevel_28 (by decide) ?_
      refine V.iconst_ (nI 0) d_Text_readLevel_29 (by decide +kernel) ?_
      refine V.istore_n d_Text_readLevel_30 (by decide) ?_
      exact V.lc rfl (lev2_loopQ hu hsz hz hB gu hu2 1 0 (u2 s) L2 (by omega) g2 (by omega) hR2 hQ)
  · skip
    exact absurd c_2 (by decide)
set_option maxRecDepth 100000 in
theorem lev1_loopQ {l : Launch} {R W Z : Nat → Nat → Int32} {T : Nat → Nat → Nat} {kn : Kn} {h0 : HP} {u sz op : Nat} {u2 : PS → PS} {y n : Nat} {Q : QT} (hu : u < 2) (hsz : sz ≤ 50) (hz : Z 1 1 = nI sz) (hB : ∀ j, j < sz → ∃ c, c < 256 ∧ R 2 j = nI c) (gu : Gp sz u2) (hu2 : (∀ (n : Nat) (Q : QT) (s : PS) (L : List Nat), s.1 ≤ sz → s.2.2.length ≤ s.1 → RL s L → (∀ L2, RL (u2 s) L2 → Q none n (coQ (uA R (6 + 6 * u + 1) (wrt (R (6 + 6 * u + 1)) 0 (L2))) W (zT Z u (u2 s) (L2).length op) T kn h0)) → Ct l M_Text_readLevel (y + 5) 0 0 [.ref (3 + 6 * u), .int (nI 2)] n (coQ (uA R (6 + 6 * u + 1) (wrt (R (6 + 6 * u + 1)) 0 (L))) W (zT Z u (s) (L).length op) T kn h0) Q)) : ∀ (k i : Nat) (s : PS) (L : List Nat), i + k = 50 → s.1 ≤ sz → s.2.2.length ≤ s.1 → RL s L → (∀ L2, RL (lp (R 2) sz sg1 u2 k s) L2 → Q none n (coQ (uA R (6 + 6 * u + 1) (wrt (R (6 + 6 * u + 1)) 0 (L2))) W (zT Z u (lp (R 2) sz sg1 u2 k s) (L2).length op) T kn h0)) → V l M_Text_readLevel (y + 6) 0 0 31 [(0, .ref (3 + 6 * u)), (1, .int (nI 1)), (2, .int (nI 50)), (3, .int (nI i))] [] n (coQ (uA R (6 + 6 * u + 1) (wrt (R (6 + 6 * u + 1)) 0 (L))) W (zT Z u (s) (L).length op) T kn h0) 0 0 Q := by
  intro k
  induction k with
  | zero =>
    intro i s L hik h1 h2 hR hQ
    refine V.iload_n d_Text_readLevel_31 rfl ?_
    refine V.iload_n d_Text_readLevel_32 rfl ?_
    refine V.geN (tgt := 80) d_Text_readLevel_33 (by decide) (by omega) (by omega) (fun c_33 => ?_) (fun c_33 => ?_)
    · skip
      refine V.vret d_Text_readLevel_80 rfl (Nat.le_of_ble_eq_true rfl) (Nat.le_of_ble_eq_true rfl) ?_
      exact hQ L hR
    · skip
      exact absurd c_33 (by omega)
  | succ k ih =>
    intro i s L hik h1 h2 hR hQ
    refine V.iload_n d_Text_readLevel_31 rfl ?_
    refine V.iload_n d_Text_readLevel_32 rfl ?_
    refine V.geN (tgt := 80) d_Text_readLevel_33 (by decide) (by omega) (by omega) (fun c_33 => ?_) (fun c_33 => ?_)
    · skip
      exact absurd c_33 (by omega)
    · skip
      refine V.aload_n d_Text_readLevel_36 rfl ?_
      refine V.iload_n d_Text_readLevel_37 rfl ?_
      refine V.callS1 d_Text_readLevel_38 k_Text_108_Text_signsOfS (Nat.le_of_ble_eq_true rfl) (by omega) (by omega) (c_Text_signsOf (by decide) ?_)
      refine V.callV1 d_Text_readLevel_41 k_Text_112_Text_taken_TextV (co_sQ (sc_txQ (tx_dsQ u hu).1)) (Nat.le_of_ble_eq_true rfl) (by omega) (by omega) (c_Text_takenQ (i := 5) (s := s) (by decide) (by decide) hu hsz hz hB h1 (fun hs => ?_) (fun hs => ?_))
      · skip
        have hsg : sg1 (hr (R 2) sz s) = true := hs
        obtain ⟨c, hc, ec, -, -⟩ := sg_nat (by first | exact Or.inl rfl | exact Or.inr (Or.inl rfl) | exact Or.inr (Or.inr (Or.inl rfl)) | exact Or.inr (Or.inr (Or.inr (Or.inl rfl))) | exact Or.inr (Or.inr (Or.inr (Or.inr rfl)))) hsg
        have hx := (hr_lt (by omega) ec).1
        have hxf := (hr_lt (by omega) ec).2
        obtain ⟨g1, g2, g3⟩ := gu (adv s) hx
        have ga : (adv s).1 = s.1 + 1 := rfl
        have gb : (adv s).2.2 = s.2.2 := rfl
        rw [ga] at g1 g3
        rw [gb] at g3
        have etn : (hr (R 2) sz s).toNatClampNeg < 200 := by rw [ec, icl (by omega)]; exact hc
        refine V.top (y := nI (hr (R 2) sz s).toNatClampNeg) (tn_nI (by omega) ec) ?_
        rw [show lp (R 2) sz sg1 u2 (k + 1) s = lp (R 2) sz sg1 u2 k (ly (20000 + (hr (R 2) sz s).toNatClampNeg) (u2 (adv s))) from if_pos hsg] at hQ
        refine V.istore d_Text_readLevel_44 (by decide) ?_
        refine V.iload d_Text_readLevel_46 rfl ?_
        refine V.if_ge (tgt := 54) d_Text_readLevel_48 (by decide) (fun c_48 => ?_) (fun c_48 => ?_)
        · skip
          refine V.aload_n d_Text_readLevel_54 rfl ?_
          refine V.iload_n d_Text_readLevel_55 rfl ?_
          refine V.iconst_ (nI 1) d_Text_readLevel_56 (by decide +kernel) ?_
          refine V.addN d_Text_readLevel_57 ?_
          refine V.callV1 d_Text_readLevel_58 k_Text_86_Text_readLevel_TextV (co_sQ (sc_txQ (tx_dsQ u hu).1)) (Nat.le_of_ble_eq_true rfl) (by omega) (by omega) (hu2 _ _ (adv s) L hx (by show s.2.2.length ≤ s.1 + 1; omega) hR (fun L2 hR2 => ?_))
          refine V.aload_n d_Text_readLevel_61 rfl ?_
          refine V.get d_Text_readLevel_62 f_Text_20_Text (co_sQ (sc_txQ (tx_dsQ u hu).1)) rfl ?_
          refine V.sipush_ (nI 20000) d_Text_readLevel_65 (by decide +kernel) ?_
          refine V.iload d_Text_readLevel_68 rfl ?_
          refine V.addN d_Text_readLevel_70 ?_
          refine V.callV1 d_Text_readLevel_71 k_Text_64_Row_add_RowV (co_sQ (sc_rwQ (tx_dsQ u hu).2.2.2.1)) (Nat.le_of_ble_eq_true rfl) (by omega) (by omega) (c_draftQ (v := 20000 + (hr (R 2) sz s).toNatClampNeg) (s := u2 (adv s)) hu hR2 (fun _ => by omega) (fun L3 hR3 => ?_))
          refine V.incN d_Text_readLevel_74 rfl (by decide) ?_
          refine V.goto (tgt := 31) d_Text_readLevel_77 (by decide) ?_
          have e9 := ly_len (w := 20000 + (hr (R 2) sz s).toNatClampNeg) (s := u2 (adv s))
          refine V.lc rfl (ih (i + 1) _ L3 (by omega) (by rw [ly_1]; exact g2) (by rw [ly_1]; omega) hR3 hQ)
        · skip
          exact absurd ((nI_leI (a := 0) (by decide) (by omega)).mpr (Nat.zero_le _)) c_48
      · skip
        rw [show lp (R 2) sz sg1 u2 (k + 1) s = s from if_neg (by show ¬ sg1 (hr (R 2) sz s) = true; exact Bool.eq_false_iff.mp hs)] at hQ
        refine V.istore d_Text_readLevel_44 (by decide) ?_
        refine V.iload d_Text_readLevel_46 rfl ?_
        refine V.if_ge (tgt := 54) d_Text_readLevel_48 (by decide) (fun c_48 => ?_) (fun c_48 => ?_)
        · skip
          exact absurd c_48 (by decide +kernel)
        · skip
          refine V.goto (tgt := 80) d_Text_readLevel_51 (by decide) ?_
          refine V.vret d_Text_readLevel_80 rfl (Nat.le_of_ble_eq_true rfl) (Nat.le_of_ble_eq_true rfl) ?_
          exact hQ L hR
set_option maxRecDepth 100000 in
theorem level_1Q {l : Launch} {R W Z : Nat → Nat → Int32} {T : Nat → Nat → Nat} {kn : Kn} {h0 : HP} {u sz op : Nat} {u2 : PS → PS} {y : Nat} (hu : u < 2) (hsz : sz ≤ 50) (hz : Z 1 1 = nI sz) (hB : ∀ j, j < sz → ∃ c, c < 256 ∧ R 2 j = nI c) (gu : Gp sz u2) (hu2 : (∀ (n : Nat) (Q : QT) (s : PS) (L : List Nat), s.1 ≤ sz → s.2.2.length ≤ s.1 → RL s L → (∀ L2, RL (u2 s) L2 → Q none n (coQ (uA R (6 + 6 * u + 1) (wrt (R (6 + 6 * u + 1)) 0 (L2))) W (zT Z u (u2 s) (L2).length op) T kn h0)) → Ct l M_Text_readLevel (y + 5) 0 0 [.ref (3 + 6 * u), .int (nI 2)] n (coQ (uA R (6 + 6 * u + 1) (wrt (R (6 + 6 * u + 1)) 0 (L))) W (zT Z u (s) (L).length op) T kn h0) Q)) : ∀ (n : Nat) (Q : QT) (s : PS) (L : List Nat), s.1 ≤ sz → s.2.2.length ≤ s.1 → RL s L → (∀ L2, RL (lp (R 2) sz sg1 u2 50 (u2 s)) L2 → Q none n (coQ (uA R (6 + 6 * u + 1) (wrt (R (6 + 6 * u + 1)) 0 (L2))) W (zT Z u (lp (R 2) sz sg1 u2 50 (u2 s)) (L2).length op) T kn h0)) → Ct l M_Text_readLevel (y + 6) 0 0 [.ref (3 + 6 * u), .int (nI 1)] n (coQ (uA R (6 + 6 * u + 1) (wrt (R (6 + 6 * u + 1)) 0 (L))) W (zT Z u (s) (L).length op) T kn h0) Q := by
  intro n Q s L h1 h2 hR hQ
  obtain ⟨g1, g2, g3⟩ := gu s h1
  refine Ct.of (fun _ => trivial) (by decide) (Nat.le_of_ble_eq_true rfl) ?_
  refine V.iload_n d_Text_readLevel_0 rfl ?_
  refine V.iconst_ (nI 5) d_Text_readLevel_1 (by decide +kernel) ?_
  refine V.ltN (tgt := 10) d_Text_readLevel_2 (by decide) (by omega) (by omega) (fun c_2 => ?_) (fun c_2 => ?_)
  · skip
    refine V.aload_n d_Text_readLevel_10 rfl ?_
    refine V.iload_n d_Text_readLevel_11 rfl ?_
    refine V.iconst_ (nI 1) d_Text_readLevel_12 (by decide +kernel) ?_
    refine V.addN d_Text_readLevel_13 ?_
    refine V.callV1 d_Text_readLevel_14 k_Text_86_Text_readLevel_TextV (co_sQ (sc_txQ (tx_dsQ u hu).1)) (Nat.le_of_ble_eq_true rfl) (by omega) (by omega) (hu2 _ _ s L h1 h2 hR (fun L2 hR2 => ?_))
    refine V.iload_n d_Text_readLevel_17 rfl ?_
    refine V.iconst_ (nI 2) d_Text_readLevel_18 (by decide +kernel) ?_
    refine V.neN (tgt := 26) d_Text_readLevel_19 (by decide) (by omega) (by omega) (fun c_19 => ?_) (fun c_19 => ?_)
    · skip
      refine V.bipush_ (nI 50) d_Text_readLevel_26 (by decide +kernel) ?_
      refine V.istore_n d_Text_readLevel_28 (by decide) ?_
      refine V.iconst_ (nI 0) d_Text_readLevel_29 (by decide +kernel) ?_
      refine V.istore_n d_Text_readLevel_30 (by decide) ?_
      exact V.lc rfl (lev1_loopQ hu hsz hz hB gu hu2 50 0 (u2 s) L2 (by omega) g2 (by omega) hR2 hQ)
    · skip
      exact absurd c_19 (by decide)
  · skip
    exact absurd c_2 (by decide)
set_option maxRecDepth 100000 in
theorem lev0_loopQ {l : Launch} {R W Z : Nat → Nat → Int32} {T : Nat → Nat → Nat} {kn : Kn} {h0 : HP} {u sz op : Nat} {u2 : PS → PS} {y n : Nat} {Q : QT} (hu : u < 2) (hsz : sz ≤ 50) (hz : Z 1 1 = nI sz) (hB : ∀ j, j < sz → ∃ c, c < 256 ∧ R 2 j = nI c) (gu : Gp sz u2) (hu2 : (∀ (n : Nat) (Q : QT) (s : PS) (L : List Nat), s.1 ≤ sz → s.2.2.length ≤ s.1 → RL s L → (∀ L2, RL (u2 s) L2 → Q none n (coQ (uA R (6 + 6 * u + 1) (wrt (R (6 + 6 * u + 1)) 0 (L2))) W (zT Z u (u2 s) (L2).length op) T kn h0)) → Ct l M_Text_readLevel (y + 5) 0 0 [.ref (3 + 6 * u), .int (nI 1)] n (coQ (uA R (6 + 6 * u + 1) (wrt (R (6 + 6 * u + 1)) 0 (L))) W (zT Z u (s) (L).length op) T kn h0) Q)) : ∀ (k i : Nat) (s : PS) (L : List Nat), i + k = 50 → s.1 ≤ sz → s.2.2.length ≤ s.1 → RL s L → (∀ L2, RL (lp (R 2) sz sg0 u2 k s) L2 → Q none n (coQ (uA R (6 + 6 * u + 1) (wrt (R (6 + 6 * u + 1)) 0 (L2))) W (zT Z u (lp (R 2) sz sg0 u2 k s) (L2).length op) T kn h0)) → V l M_Text_readLevel (y + 6) 0 0 31 [(0, .ref (3 + 6 * u)), (1, .int (nI 0)), (2, .int (nI 50)), (3, .int (nI i))] [] n (coQ (uA R (6 + 6 * u + 1) (wrt (R (6 + 6 * u + 1)) 0 (L))) W (zT Z u (s) (L).length op) T kn h0) 0 0 Q := by
  intro k
  induction k with
  | zero =>
    intro i s L hik h1 h2 hR hQ
    refine V.iload_n d_Text_readLevel_31 rfl ?_
    refine V.iload_n d_Text_readLevel_32 rfl ?_
    refine V.geN (tgt := 80) d_Text_readLevel_33 (by decide) (by omega) (by omega) (fun c_33 => ?_) (fun c_33 => ?_)
    · skip
      refine V.vret d_Text_readLevel_80 rfl (Nat.le_of_ble_eq_true rfl) (Nat.le_of_ble_eq_true rfl) ?_
      exact hQ L hR
    · skip
      exact absurd c_33 (by omega)
  | succ k ih =>
    intro i s L hik h1 h2 hR hQ
    refine V.iload_n d_Text_readLevel_31 rfl ?_
    refine V.iload_n d_Text_readLevel_32 rfl ?_
    refine V.geN (tgt := 80) d_Text_readLevel_33 (by decide) (by omega) (by omega) (fun c_33 => ?_) (fun c_33 => ?_)
    · skip
      exact absurd c_33 (by omega)
    · skip
      refine V.aload_n d_Text_readLevel_36 rfl ?_
      refine V.iload_n d_Text_readLevel_37 rfl ?_
      refine V.callS1 d_Text_readLevel_38 k_Text_108_Text_signsOfS (Nat.le_of_ble_eq_true rfl) (by omega) (by omega) (c_Text_signsOf (by decide) ?_)
      refine V.callV1 d_Text_readLevel_41 k_Text_112_Text_taken_TextV (co_sQ (sc_txQ (tx_dsQ u hu).1)) (Nat.le_of_ble_eq_true rfl) (by omega) (by omega) (c_Text_takenQ (i := 4) (s := s) (by decide) (by decide) hu hsz hz hB h1 (fun hs => ?_) (fun hs => ?_))
      · skip
        have hsg : sg0 (hr (R 2) sz s) = true := hs
        obtain ⟨c, hc, ec, -, -⟩ := sg_nat (by first | exact Or.inl rfl | exact Or.inr (Or.inl rfl) | exact Or.inr (Or.inr (Or.inl rfl)) | exact Or.inr (Or.inr (Or.inr (Or.inl rfl))) | exact Or.inr (Or.inr (Or.inr (Or.inr rfl)))) hsg
        have hx := (hr_lt (by omega) ec).1
        have hxf := (hr_lt (by omega) ec).2
        obtain ⟨g1, g2, g3⟩ := gu (adv s) hx
        have ga : (adv s).1 = s.1 + 1 := rfl
        have gb : (adv s).2.2 = s.2.2 := rfl
        rw [ga] at g1 g3
        rw [gb] at g3
        have etn : (hr (R 2) sz s).toNatClampNeg < 200 := by rw [ec, icl (by omega)]; exact hc
        refine V.top (y := nI (hr (R 2) sz s).toNatClampNeg) (tn_nI (by omega) ec) ?_
        rw [show lp (R 2) sz sg0 u2 (k + 1) s = lp (R 2) sz sg0 u2 k (ly (20000 + (hr (R 2) sz s).toNatClampNeg) (u2 (adv s))) from if_pos hsg] at hQ
        refine V.istore d_Text_readLevel_44 (by decide) ?_
        refine V.iload d_Text_readLevel_46 rfl ?_
        refine V.if_ge (tgt := 54) d_Text_readLevel_48 (by decide) (fun c_48 => ?_) (fun c_48 => ?_)
        · skip
          refine V.aload_n d_Text_readLevel_54 rfl ?_
          refine V.iload_n d_Text_readLevel_55 rfl ?_
          refine V.iconst_ (nI 1) d_Text_readLevel_56 (by decide +kernel) ?_
          refine V.addN d_Text_readLevel_57 ?_
          refine V.callV1 d_Text_readLevel_58 k_Text_86_Text_readLevel_TextV (co_sQ (sc_txQ (tx_dsQ u hu).1)) (Nat.le_of_ble_eq_true rfl) (by omega) (by omega) (hu2 _ _ (adv s) L hx (by show s.2.2.length ≤ s.1 + 1; omega) hR (fun L2 hR2 => ?_))
          refine V.aload_n d_Text_readLevel_61 rfl ?_
          refine V.get d_Text_readLevel_62 f_Text_20_Text (co_sQ (sc_txQ (tx_dsQ u hu).1)) rfl ?_
          refine V.sipush_ (nI 20000) d_Text_readLevel_65 (by decide +kernel) ?_
          refine V.iload d_Text_readLevel_68 rfl ?_
          refine V.addN d_Text_readLevel_70 ?_
          refine V.callV1 d_Text_readLevel_71 k_Text_64_Row_add_RowV (co_sQ (sc_rwQ (tx_dsQ u hu).2.2.2.1)) (Nat.le_of_ble_eq_true rfl) (by omega) (by omega) (c_draftQ (v := 20000 + (hr (R 2) sz s).toNatClampNeg) (s := u2 (adv s)) hu hR2 (fun _ => by omega) (fun L3 hR3 => ?_))
          refine V.incN d_Text_readLevel_74 rfl (by decide) ?_
          refine V.goto (tgt := 31) d_Text_readLevel_77 (by decide) ?_
          have e9 := ly_len (w := 20000 + (hr (R 2) sz s).toNatClampNeg) (s := u2 (adv s))
          refine V.lc rfl (ih (i + 1) _ L3 (by omega) (by rw [ly_1]; exact g2) (by rw [ly_1]; omega) hR3 hQ)
        · skip
          exact absurd ((nI_leI (a := 0) (by decide) (by omega)).mpr (Nat.zero_le _)) c_48
      · skip
        rw [show lp (R 2) sz sg0 u2 (k + 1) s = s from if_neg (by show ¬ sg0 (hr (R 2) sz s) = true; exact Bool.eq_false_iff.mp hs)] at hQ
        refine V.istore d_Text_readLevel_44 (by decide) ?_
        refine V.iload d_Text_readLevel_46 rfl ?_
        refine V.if_ge (tgt := 54) d_Text_readLevel_48 (by decide) (fun c_48 => ?_) (fun c_48 => ?_)
        · skip
          exact absurd c_48 (by decide +kernel)
        · skip
          refine V.goto (tgt := 80) d_Text_readLevel_51 (by decide) ?_
          refine V.vret d_Text_readLevel_80 rfl (Nat.le_of_ble_eq_true rfl) (Nat.le_of_ble_eq_true rfl) ?_
          exact hQ L hR
set_option maxRecDepth 100000 in
theorem level_0Q {l : Launch} {R W Z : Nat → Nat → Int32} {T : Nat → Nat → Nat} {kn : Kn} {h0 : HP} {u sz op : Nat} {u2 : PS → PS} {y : Nat} (hu : u < 2) (hsz : sz ≤ 50) (hz : Z 1 1 = nI sz) (hB : ∀ j, j < sz → ∃ c, c < 256 ∧ R 2 j = nI c) (gu : Gp sz u2) (hu2 : (∀ (n : Nat) (Q : QT) (s : PS) (L : List Nat), s.1 ≤ sz → s.2.2.length ≤ s.1 → RL s L → (∀ L2, RL (u2 s) L2 → Q none n (coQ (uA R (6 + 6 * u + 1) (wrt (R (6 + 6 * u + 1)) 0 (L2))) W (zT Z u (u2 s) (L2).length op) T kn h0)) → Ct l M_Text_readLevel (y + 5) 0 0 [.ref (3 + 6 * u), .int (nI 1)] n (coQ (uA R (6 + 6 * u + 1) (wrt (R (6 + 6 * u + 1)) 0 (L))) W (zT Z u (s) (L).length op) T kn h0) Q)) : ∀ (n : Nat) (Q : QT) (s : PS) (L : List Nat), s.1 ≤ sz → s.2.2.length ≤ s.1 → RL s L → (∀ L2, RL (lp (R 2) sz sg0 u2 50 (u2 s)) L2 → Q none n (coQ (uA R (6 + 6 * u + 1) (wrt (R (6 + 6 * u + 1)) 0 (L2))) W (zT Z u (lp (R 2) sz sg0 u2 50 (u2 s)) (L2).length op) T kn h0)) → Ct l M_Text_readLevel (y + 6) 0 0 [.ref (3 + 6 * u), .int (nI 0)] n (coQ (uA R (6 + 6 * u + 1) (wrt (R (6 + 6 * u + 1)) 0 (L))) W (zT Z u (s) (L).length op) T kn h0) Q := by
  intro n Q s L h1 h2 hR hQ
  obtain ⟨g1, g2, g3⟩ := gu s h1
  refine Ct.of (fun _ => trivial) (by decide) (Nat.le_of_ble_eq_true rfl) ?_
  refine V.iload_n d_Text_readLevel_0 rfl ?_
  refine V.iconst_ (nI 5) d_Text_readLevel_1 (by decide +kernel) ?_
  refine V.ltN (tgt := 10) d_Text_readLevel_2 (by decide) (by omega) (by omega) (fun c_2 => ?_) (fun c_2 => ?_)
  · skip
    refine V.aload_n d_Text_readLevel_10 rfl ?_
    refine V.iload_n d_Text_readLevel_11 rfl ?_
    refine V.iconst_ (nI 1) d_Text_readLevel_12 (by decide +kernel) ?_
    refine V.addN d_Text_readLevel_13 ?_
    refine V.callV1 d_Text_readLevel_14 k_Text_86_Text_readLevel_TextV (co_sQ (sc_txQ (tx_dsQ u hu).1)) (Nat.le_of_ble_eq_true rfl) (by omega) (by omega) (hu2 _ _ s L h1 h2 hR (fun L2 hR2 => ?_))
    refine V.iload_n d_Text_readLevel_17 rfl ?_
    refine V.iconst_ (nI 2) d_Text_readLevel_18 (by decide +kernel) ?_
    refine V.neN (tgt := 26) d_Text_readLevel_19 (by decide) (by omega) (by omega) (fun c_19 => ?_) (fun c_19 => ?_)
    · skip
      refine V.bipush_ (nI 50) d_Text_readLevel_26 (by decide +kernel) ?_
      refine V.istore_n d_Text_readLevel_28 (by decide) ?_
      refine V.iconst_ (nI 0) d_Text_readLevel_29 (by decide +kernel) ?_
      refine V.istore_n d_Text_readLevel_30 (by decide) ?_
      exact V.lc rfl (lev0_loopQ hu hsz hz hB gu hu2 50 0 (u2 s) L2 (by omega) g2 (by omega) hR2 hQ)
    · skip
      exact absurd c_19 (by decide)
  · skip
    exact absurd c_2 (by decide)
theorem level_allQ {l : Launch} {R W Z : Nat → Nat → Int32} {T : Nat → Nat → Nat} {kn : Kn} {h0 : HP} {u sz op : Nat} {u2 : PS → PS} {y : Nat} (hu : u < 2) (hsz : sz ≤ 50) (hz : Z 1 1 = nI sz) (hB : ∀ j, j < sz → ∃ c, c < 256 ∧ R 2 j = nI c) (gu : Gp sz u2) (hu2 : (∀ (n : Nat) (Q : QT) (s : PS) (L : List Nat), s.1 ≤ sz → s.2.2.length ≤ s.1 → RL s L → (∀ L2, RL (u2 s) L2 → Q none n (coQ (uA R (6 + 6 * u + 1) (wrt (R (6 + 6 * u + 1)) 0 (L2))) W (zT Z u (u2 s) (L2).length op) T kn h0)) → Ct l M_Text_readPart (y + 5) 0 0 [.ref (3 + 6 * u)] n (coQ (uA R (6 + 6 * u + 1) (wrt (R (6 + 6 * u + 1)) 0 (L))) W (zT Z u (s) (L).length op) T kn h0) Q)) : ∀ (n : Nat) (Q : QT) (s : PS) (L : List Nat), s.1 ≤ sz → s.2.2.length ≤ s.1 → RL s L → (∀ L2, RL (eiP (R 2) sz u2 s) L2 → Q none n (coQ (uA R (6 + 6 * u + 1) (wrt (R (6 + 6 * u + 1)) 0 (L2))) W (zT Z u (eiP (R 2) sz u2 s) (L2).length op) T kn h0)) → Ct l M_Text_readLevel (y + 11) 0 0 [.ref (3 + 6 * u), .int (nI 0)] n (coQ (uA R (6 + 6 * u + 1) (wrt (R (6 + 6 * u + 1)) 0 (L))) W (zT Z u (s) (L).length op) T kn h0) Q := by
  have a5 := level_5Q hu hu2
  have a4 := level_4Q (y := y + 1) hu hsz hz hB gu a5
  have a3 := level_3Q (y := y + 2) hu hsz hz hB (Gp.pr gu) a4
  have a2 := level_2Q (y := y + 3) hu hsz hz hB (Gp.sm gu) a3
  have a1 := level_1Q (y := y + 4) hu hsz hz hB (Gp.cm gu) a2
  exact level_0Q (y := y + 5) hu hsz hz hB (Gp.bo gu) a1
theorem part_noneQ {l : Launch} {R W Z : Nat → Nat → Int32} {T : Nat → Nat → Nat} {kn : Kn} {h0 : HP} {u sz : Nat} {x : Nat} (hu : u < 2) (hsz : sz ≤ 50) (hz : Z 1 1 = nI sz) (hB : ∀ j, j < sz → ∃ c, c < 256 ∧ R 2 j = nI c) (hx : 5 ≤ x) : ∀ (n : Nat) (Q : QT) (s : PS) (L : List Nat), s.1 ≤ sz → s.2.2.length ≤ s.1 → RL s L → (∀ L2, RL (unP (R 2) sz (decide (u = 1)) 0 s) L2 → Q none n (coQ (uA R (6 + 6 * u + 1) (wrt (R (6 + 6 * u + 1)) 0 (L2))) W (zT Z u (unP (R 2) sz (decide (u = 1)) 0 s) (L2).length 5) T kn h0)) → Ct l M_Text_readPart x 0 0 [.ref (3 + 6 * u)] n (coQ (uA R (6 + 6 * u + 1) (wrt (R (6 + 6 * u + 1)) 0 (L))) W (zT Z u (s) (L).length 5) T kn h0) Q := by
  obtain ⟨y, rfl⟩ : ∃ y, x = y + 5 := ⟨x - 5, by omega⟩
  intro n Q s L h1 h2 hR hQ
  exact c_Text_readPartQ (o := none) hu hsz hz hB h1 h2 hR (by decide) (fun z => absurd z (by decide)) (fun _ => rfl) hQ
theorem part_someQ {l : Launch} {R W Z : Nat → Nat → Int32} {T : Nat → Nat → Nat} {kn : Kn} {h0 : HP} {u sz op : Nat} {u2 : PS → PS} {dd : Nat} (hu : u < 2) (hsz : sz ≤ 50) (hz : Z 1 1 = nI sz) (hB : ∀ j, j < sz → ∃ c, c < 256 ∧ R 2 j = nI c) (hop : op < 5) (gu : Gp sz u2) (hd : 5 ≤ dd) (hu2 : ∀ x, dd ≤ x → (∀ (n : Nat) (Q : QT) (s : PS) (L : List Nat), s.1 ≤ sz → s.2.2.length ≤ s.1 → RL s L → (∀ L2, RL (u2 s) L2 → Q none n (coQ (uA R (6 + 6 * u + 1) (wrt (R (6 + 6 * u + 1)) 0 (L2))) W (zT Z u (u2 s) (L2).length (op + 1)) T kn h0)) → Ct l M_Text_readPart x 0 0 [.ref (3 + 6 * u)] n (coQ (uA R (6 + 6 * u + 1) (wrt (R (6 + 6 * u + 1)) 0 (L))) W (zT Z u (s) (L).length (op + 1)) T kn h0) Q)) : ∀ x, dd + 8 ≤ x → ∀ (n : Nat) (Q : QT) (s : PS) (L : List Nat), s.1 ≤ sz → s.2.2.length ≤ s.1 → RL s L → (∀ L2, RL (utP (R 2) sz (decide (u = 1)) (some u2) s) L2 → Q none n (coQ (uA R (6 + 6 * u + 1) (wrt (R (6 + 6 * u + 1)) 0 (L2))) W (zT Z u (utP (R 2) sz (decide (u = 1)) (some u2) s) (L2).length op) T kn h0)) → Ct l M_Text_readPart x 0 0 [.ref (3 + 6 * u)] n (coQ (uA R (6 + 6 * u + 1) (wrt (R (6 + 6 * u + 1)) 0 (L))) W (zT Z u (s) (L).length op) T kn h0) Q := by
  intro x hx
  obtain ⟨y, rfl⟩ : ∃ y, x = y + 13 := ⟨x - 13, by omega⟩
  intro n Q s L h1 h2 hR hQ
  have a0 := level_allQ (y := y) hu hsz hz hB gu (hu2 (y + 5) (by omega))
  refine c_Text_readPartQ (d := y + 8) (o := some u2) hu hsz hz hB h1 h2 hR (by omega) (fun _ c hc e Q hQ => ?_) (fun z => absurd hop z) hQ
  rcases hc with rfl | rfl
  · rw [show opP (R 2) sz (some u2) s = ly 20033 (u2 (adv s)) from if_pos e] at hQ
    exact c_Text_readOpen33Q (y := y + 6) hu hsz hz hB gu (hu2 (y + 11) (by omega)) h1 h2 hR e hQ
  · rw [show opP (R 2) sz (some u2) s = clP (R 2) sz (eiP (R 2) sz u2 (adv s)) from if_neg (fun z => absurd (e.symm.trans z) (by decide +kernel))] at hQ
    exact c_Text_readOpen40Q (y := y + 6) hu hsz hz hB (Gp.ei gu) a0 h1 h2 hR e hQ
theorem part_5Q {l : Launch} {R W Z : Nat → Nat → Int32} {T : Nat → Nat → Nat} {kn : Kn} {h0 : HP} {u sz : Nat} (hu : u < 2) (hsz : sz ≤ 50) (hz : Z 1 1 = nI sz) (hB : ∀ j, j < sz → ∃ c, c < 256 ∧ R 2 j = nI c) : ∀ x, 45 ≤ x → ∀ (n : Nat) (Q : QT) (s : PS) (L : List Nat), s.1 ≤ sz → s.2.2.length ≤ s.1 → RL s L → (∀ L2, RL (unP (R 2) sz (decide (u = 1)) 5 s) L2 → Q none n (coQ (uA R (6 + 6 * u + 1) (wrt (R (6 + 6 * u + 1)) 0 (L2))) W (zT Z u (unP (R 2) sz (decide (u = 1)) 5 s) (L2).length 0) T kn h0)) → Ct l M_Text_readPart x 0 0 [.ref (3 + 6 * u)] n (coQ (uA R (6 + 6 * u + 1) (wrt (R (6 + 6 * u + 1)) 0 (L))) W (zT Z u (s) (L).length 0) T kn h0) Q := by
  have b0 := fun x (hx : 5 ≤ x) => part_noneQ (l := l) (R := R) (W := W) (Z := Z) (T := T) (kn := kn) (h0 := h0) hu hsz hz hB hx
  have b1 := part_someQ (op := 4) hu hsz hz hB (by decide) (Gp.un 0) (by decide) b0
  have b2 := part_someQ (op := 3) (u2 := unP (R 2) sz (decide (u = 1)) 1) hu hsz hz hB (by decide) (Gp.un 1) (by decide) b1
  have b3 := part_someQ (op := 2) (u2 := unP (R 2) sz (decide (u = 1)) 2) hu hsz hz hB (by decide) (Gp.un 2) (by decide) b2
  have b4 := part_someQ (op := 1) (u2 := unP (R 2) sz (decide (u = 1)) 3) hu hsz hz hB (by decide) (Gp.un 3) (by decide) b3
  exact part_someQ (op := 0) (u2 := unP (R 2) sz (decide (u = 1)) 4) hu hsz hz hB (by decide) (Gp.un 4) (by decide) b4
theorem level_topQ {l : Launch} {R W Z : Nat → Nat → Int32} {T : Nat → Nat → Nat} {kn : Kn} {h0 : HP} {u sz : Nat} (hu : u < 2) (hsz : sz ≤ 50) (hz : Z 1 1 = nI sz) (hB : ∀ j, j < sz → ∃ c, c < 256 ∧ R 2 j = nI c) : ∀ x, 51 ≤ x → ∀ (n : Nat) (Q : QT) (s : PS) (L : List Nat), s.1 ≤ sz → s.2.2.length ≤ s.1 → RL s L → (∀ L2, RL (eiP (R 2) sz (unP (R 2) sz (decide (u = 1)) 5) s) L2 → Q none n (coQ (uA R (6 + 6 * u + 1) (wrt (R (6 + 6 * u + 1)) 0 (L2))) W (zT Z u (eiP (R 2) sz (unP (R 2) sz (decide (u = 1)) 5) s) (L2).length 0) T kn h0)) → Ct l M_Text_readLevel x 0 0 [.ref (3 + 6 * u), .int (nI 0)] n (coQ (uA R (6 + 6 * u + 1) (wrt (R (6 + 6 * u + 1)) 0 (L))) W (zT Z u (s) (L).length 0) T kn h0) Q := by
  intro x hx
  obtain ⟨y, rfl⟩ : ∃ y, x = y + 11 := ⟨x - 11, by omega⟩
  exact level_allQ (y := y) hu hsz hz hB (Gp.un 5) (part_5Q hu hsz hz hB (y + 5) (by omega))
set_option maxRecDepth 100000 in
theorem c_Text_readQ {l : Launch} {R W Z : Nat → Nat → Int32} {T : Nat → Nat → Nat} {kn : Kn} {h0 : HP} {u sz : Nat} {d n : Nat} {Q : QT} (hu : u < 2) (hsz : sz ≤ 50) (hz : Z 1 1 = nI sz) (hB : ∀ j, j < sz → ∃ c, c < 256 ∧ R 2 j = nI c) (hT : TIQ T kn n) (hF : (teP (R 2) sz (decide (u = 1))).2.1 = true → ∀ R1 Z1 : Nat → Nat → Int32, (∀ a, a ≠ 5 + 6 * u → a ≠ 7 + 6 * u → R1 a = R a) → (∀ b j, b ≠ 3 + 6 * u → b ≠ 4 + 6 * u → b ≠ 6 + 6 * u → Z1 b j = Z b j) → R1 (5 + 6 * u) = R (5 + 6 * u) → Z1 (4 + 6 * u) 1 = Z (4 + 6 * u) 1 → Q (some (.int (nI (teP (R 2) sz (decide (u = 1))).1))) n (coQ R1 W Z1 T kn h0)) (hOk : (teP (R 2) sz (decide (u = 1))).2.1 = false → ∀ R1 Z1 : Nat → Nat → Int32, (∀ a, a ≠ 5 + 6 * u → a ≠ 7 + 6 * u → R1 a = R a) → (∀ b j, b ≠ 3 + 6 * u → b ≠ 4 + 6 * u → b ≠ 6 + 6 * u → Z1 b j = Z b j) → (∀ k, k < (teP (R 2) sz (decide (u = 1))).2.2.length → R1 (5 + 6 * u) k = nI ((teP (R 2) sz (decide (u = 1))).2.2.getD k 0)) → Z1 (4 + 6 * u) 1 = nI (teP (R 2) sz (decide (u = 1))).2.2.length → Q (some (.int (-1))) n (coQ R1 W Z1 T (fgK u kn) h0)) : Ct l M_Text_read (d + 52) 0 0 [.ref (3 + 6 * u)] n (coQ R W Z T kn h0) Q := by
  have hle : (eiP (R 2) sz (unP (R 2) sz (decide (u = 1)) 5) (0, false, [])).1 ≤ sz := (Gp.ei (Gp.un 5) (0, false, []) (Nat.zero_le _)).2.1
  refine Ct.of (fun _ => trivial) (by decide) (Nat.le_of_ble_eq_true rfl) ?_
  refine V.aload_n d_Text_read_0 rfl ?_
  refine V.iconst_ (nI 0) d_Text_read_1 (by decide +kernel) ?_
  refine V.put d_Text_read_2 f_Text_27_Text fp_Text_7 (fun _ => rfl) (fun _ => rfl) (co_sQ (sc_txQ (tx_dsQ u hu).1)) (Nat.le_of_ble_eq_true rfl) ?_
  refine V.eqH (co_utxQ (u := u) (k := 7) hu (by decide)) ?_
  refine V.aload_n d_Text_read_5 rfl ?_
  refine V.iconst_ (nI 0) d_Text_read_6 (by decide +kernel) ?_
  refine V.put d_Text_read_7 f_Text_31_Text fp_Text_8 (fun _ => rfl) (fun _ => rfl) (co_sQ (sc_txQ (tx_dsQ u hu).1)) (Nat.le_of_ble_eq_true rfl) ?_
  refine V.eqH (co_utxQ (u := u) (k := 8) hu (by decide)) ?_
  refine V.aload_n d_Text_read_10 rfl ?_
  refine V.iconst_ (-1) d_Text_read_11 (by decide +kernel) ?_
  refine V.put d_Text_read_12 f_Text_34_Text fp_Text_9 (fun _ => rfl) (fun _ => rfl) (co_sQ (sc_txQ (tx_dsQ u hu).1)) (Nat.le_of_ble_eq_true rfl) ?_
  refine V.eqH (co_utxQ (u := u) (k := 9) hu (by decide)) ?_
  refine V.aload_n d_Text_read_15 rfl ?_
  refine V.get d_Text_read_16 f_Text_20_Text (co_sQ (sc_txQ (tx_dsQ u hu).1)) rfl ?_
  refine V.callV0 d_Text_read_19 k_Text_70_Row_clear_RowV (co_sQ (sc_rwQ (tx_dsQ u hu).2.2.2.1)) (Nat.le_of_ble_eq_true rfl) (by omega) (by omega) (c_Row_clearQ (tx_dsQ u hu).2.2.2.1 ?_)
  refine V.eqH (h' := coQ (uA R (6 + 6 * u + 1) (wrt (R (6 + 6 * u + 1)) 0 (([] : List Nat)))) W (zT Z u ((0, false, [])) (([] : List Nat)).length 0) T kn h0) (by rw [zT_b, show wrt (R (6 + 6 * u + 1)) 0 [] = R (6 + 6 * u + 1) from rfl, uA_id]; rfl) ?_
  refine V.aload_n d_Text_read_22 rfl ?_
  refine V.iconst_ (nI 0) d_Text_read_23 (by decide +kernel) ?_
  refine V.callV1 d_Text_read_24 k_Text_86_Text_readLevel_TextV (co_sQ (sc_txQ (tx_dsQ u hu).1)) (Nat.le_of_ble_eq_true rfl) (by omega) (by omega) (level_topQ hu hsz hz hB (d + 51) (by omega) n _ (0, false, []) [] (Nat.zero_le _) (Nat.le_refl _) ⟨fun _ => rfl, Nat.zero_le _⟩ (fun L hR => ?_))
  refine V.aload_n d_Text_read_27 rfl ?_
  refine V.get d_Text_read_28 f_Text_34_Text (co_sQ (sc_txQ (tx_dsQ u hu).1)) rfl ?_
  refine V.if_ge (tgt := 56) d_Text_read_31 (by decide) (fun c_31 => ?_) (fun c_31 => ?_)
  · skip
    have hf : (eiP (R 2) sz (unP (R 2) sz (decide (u = 1)) 5) (0, false, [])).2.1 = true := (zT_9i (by omega)).mp c_31
    refine V.aload_n d_Text_read_56 rfl ?_
    refine V.get d_Text_read_57 f_Text_34_Text (co_sQ (sc_txQ (tx_dsQ u hu).1)) rfl ?_
    refine V.if_ge (tgt := 71) d_Text_read_60 (by decide) (fun c_60 => ?_) (fun c_60 => ?_)
    · skip
      refine V.aload_n d_Text_read_71 rfl ?_
      refine V.get d_Text_read_72 f_Text_34_Text (co_sQ (sc_txQ (tx_dsQ u hu).1)) rfl ?_
      refine V.top (y := nI (eiP (R 2) sz (unP (R 2) sz (decide (u = 1)) 5) (0, false, [])).1) (zT_9t hf) ?_
      refine V.iret d_Text_read_75 rfl (Nat.le_of_ble_eq_true rfl) (Nat.le_of_ble_eq_true rfl) ?_
      rw [te_s (fun z => absurd z.1 (by rw [hf]; decide))] at hF
      exact hF hf _ _ (fun a h5 h7 => by rw [uA_n (by omega)]) (fun b j h3 h4 h6 => zT_n (Or.inl h3) (Or.inl h6)) (uA_n (by omega)) (zT_n (Or.inl (by omega)) (Or.inl (by omega)))
    · skip
      exact absurd ((zT_9i (by omega)).mpr hf) c_60
  · skip
    have hf : (eiP (R 2) sz (unP (R 2) sz (decide (u = 1)) 5) (0, false, [])).2.1 = false := Bool.eq_false_iff.mpr (fun z => c_31 ((zT_9i (by omega)).mpr z))
    refine V.aload_n d_Text_read_34 rfl ?_
    refine V.get d_Text_read_35 f_Text_27_Text (co_sQ (sc_txQ (tx_dsQ u hu).1)) rfl ?_
    refine V.top (y := nI (eiP (R 2) sz (unP (R 2) sz (decide (u = 1)) 5) (0, false, [])).1) zT_7 ?_
    refine V.aload_n d_Text_read_38 rfl ?_
    refine V.get d_Text_read_39 f_Text_41_Text (co_sQ (sc_txQ (tx_dsQ u hu).1)) rfl ?_
    refine V.get d_Text_read_42 f_Text_89_Row (co_sQ (sc_rwQ rfl)) rfl ?_
    refine V.top (y := nI sz) (zT_1.trans hz) ?_
    refine V.geN (tgt := 56) d_Text_read_45 (by decide) (by omega) (by omega) (fun c_45 => ?_) (fun c_45 => ?_)
    · skip
      refine V.aload_n d_Text_read_56 rfl ?_
      refine V.get d_Text_read_57 f_Text_34_Text (co_sQ (sc_txQ (tx_dsQ u hu).1)) rfl ?_
      refine V.if_ge (tgt := 71) d_Text_read_60 (by decide) (fun c_60 => ?_) (fun c_60 => ?_)
      · skip
        exact absurd c_60 (by rw [zT_9f hf]; decide)
      · skip
        refine V.aload_n d_Text_read_63 rfl ?_
        refine V.aload_n d_Text_read_64 rfl ?_
        refine V.get d_Text_read_65 f_Text_20_Text (co_sQ (sc_txQ (tx_dsQ u hu).1)) rfl ?_
        refine V.callV1 d_Text_read_68 k_Text_92_Text_takeCode_TextV (co_sQ (sc_txQ (tx_dsQ u hu).1)) (Nat.le_of_ble_eq_true rfl) (by omega) (by omega) (c_Text_takeCodeQ (u := u) (b := 6 + 6 * u) (N2 := 50) (sz := L.length) hu hT (tx_dsQ u hu).2.2.2.1 (txa_dsQ u hu).2 (by omega) zT_r hR.2 hR.2 (by decide) ?_)
        refine V.aload_n d_Text_read_71 rfl ?_
        refine V.get d_Text_read_72 f_Text_34_Text (co_sQ (sc_txQ (tx_dsQ u hu).1)) rfl ?_
        refine V.top (y := -1) (by rw [uZ_n (by omega)]; exact zT_9f hf) ?_
        refine V.iret d_Text_read_75 rfl (Nat.le_of_ble_eq_true rfl) (Nat.le_of_ble_eq_true rfl) ?_
        rw [te_s (fun z => absurd z.2 (by omega))] at hOk
        have eL := hR.1 hf
        subst eL
        exact hOk hf _ _ (fun a h5 h7 => by rw [uA_n (by omega), uA_n (by omega)]) (fun b j h3 h4 h6 => by rw [uZ_n (by omega)]; exact zT_n (Or.inl h3) (Or.inl h6)) (fun k hk => by
          rw [show 5 + 6 * u = 4 + 6 * u + 1 by omega, uA_s, uA_s]
          unfold cpN
          rw [if_pos hk]
          have := wrt_at (R (6 + 6 * u + 1)) (eiP (R 2) sz (unP (R 2) sz (decide (u = 1)) 5) (0, false, [])).2.2 0 k hk
          rwa [Nat.zero_add] at this) uZ_s
    · skip
      refine V.aload_n d_Text_read_48 rfl ?_
      refine V.aload_n d_Text_read_49 rfl ?_
      refine V.get d_Text_read_50 f_Text_27_Text (co_sQ (sc_txQ (tx_dsQ u hu).1)) rfl ?_
      refine V.top (y := nI (eiP (R 2) sz (unP (R 2) sz (decide (u = 1)) 5) (0, false, [])).1) zT_7 ?_
      refine V.put d_Text_read_53 f_Text_34_Text fp_Text_9 (fun _ => rfl) (fun _ => rfl) (co_sQ (sc_txQ (tx_dsQ u hu).1)) (Nat.le_of_ble_eq_true rfl) ?_
      refine V.eqH (co_utxQ (u := u) (k := 9) hu (by decide)) ?_
      rw [zT_wg hf]
      refine V.aload_n d_Text_read_56 rfl ?_
      refine V.get d_Text_read_57 f_Text_34_Text (co_sQ (sc_txQ (tx_dsQ u hu).1)) rfl ?_
      refine V.if_ge (tgt := 71) d_Text_read_60 (by decide) (fun c_60 => ?_) (fun c_60 => ?_)
      · skip
        refine V.aload_n d_Text_read_71 rfl ?_
        refine V.get d_Text_read_72 f_Text_34_Text (co_sQ (sc_txQ (tx_dsQ u hu).1)) rfl ?_
        refine V.top (y := nI (wg (eiP (R 2) sz (unP (R 2) sz (decide (u = 1)) 5) (0, false, []))).1) (zT_9t rfl) ?_
        refine V.iret d_Text_read_75 rfl (Nat.le_of_ble_eq_true rfl) (Nat.le_of_ble_eq_true rfl) ?_
        rw [te_w ⟨hf, c_45⟩] at hF
        exact hF rfl _ _ (fun a h5 h7 => by rw [uA_n (by omega)]) (fun b j h3 h4 h6 => zT_n (Or.inl h3) (Or.inl h6)) (uA_n (by omega)) (zT_n (Or.inl (by omega)) (Or.inl (by omega)))
      · skip
        exact absurd (by rw [zT_9t rfl]; exact (nI_leI (a := 0) (by decide) (by show (eiP (R 2) sz (unP (R 2) sz (decide (u = 1)) 5) (0, false, [])).1 < 2 ^ 31; omega)).mpr (Nat.zero_le _)) c_60
