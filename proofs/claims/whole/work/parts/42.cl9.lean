theorem d_Text_readLevel_0 : decode prog_9_method_7_code 0 = .ok (.iload_n 1, 1) := by decide +kernel
theorem d_Text_readLevel_1 : decode prog_9_method_7_code 1 = .ok (.iconst 5, 1) := by decide +kernel
theorem d_Text_readLevel_2 : decode prog_9_method_7_code 2 = .ok (.if_icmp .lt 8, 3) := by decide +kernel
theorem d_Text_readLevel_5 : decode prog_9_method_7_code 5 = .ok (.aload_n 0, 1) := by decide +kernel
theorem d_Text_readLevel_6 : decode prog_9_method_7_code 6 = .ok (.invokevirtual 105, 3) := by decide +kernel
theorem d_Text_readLevel_9 : decode prog_9_method_7_code 9 = .ok (.return_, 1) := by decide +kernel
set_option maxRecDepth 100000 in
theorem level_5 {l : Launch} {R W Z : Nat → Nat → Int32} {T : Nat → Nat → Nat} {kn : Kn} {h0 : HP} {u sz op : Nat} {u2 : PS → PS} {y : Nat} (hu : u < 2) (hu2 : (∀ (n : Nat) (Q : QT) (s : PS) (L : List Nat), s.1 ≤ sz → s.2.2.length ≤ s.1 → RL s L → (∀ L2, RL (u2 s) L2 → Q none n (co (uA R (6 + 6 * u + 1) (wrt (R (6 + 6 * u + 1)) 0 (L2))) W (zT Z u (u2 s) (L2).length op) T kn h0)) → Ct l M_Text_readPart y 0 0 [.ref (3 + 6 * u)] n (co (uA R (6 + 6 * u + 1) (wrt (R (6 + 6 * u + 1)) 0 (L))) W (zT Z u (s) (L).length op) T kn h0) Q)) : ∀ (n : Nat) (Q : QT) (s : PS) (L : List Nat), s.1 ≤ sz → s.2.2.length ≤ s.1 → RL s L → (∀ L2, RL (u2 s) L2 → Q none n (co (uA R (6 + 6 * u + 1) (wrt (R (6 + 6 * u + 1)) 0 (L2))) W (zT Z u (u2 s) (L2).length op) T kn h0)) → Ct l M_Text_readLevel (y + 1) 0 0 [.ref (3 + 6 * u), .int (nI 5)] n (co (uA R (6 + 6 * u + 1) (wrt (R (6 + 6 * u + 1)) 0 (L))) W (zT Z u (s) (L).length op) T kn h0) Q := by
  intro n Q s L h1 h2 hR hQ
  refine Ct.of (fun _ => trivial) (by decide) (Nat.le_of_ble_eq_true rfl) ?_
  refine V.iload_n d_Text_readLevel_0 rfl ?_
  refine V.iconst_ (nI 5) d_Text_readLevel_1 (by decide +kernel) ?_
  refine V.ltN (tgt := 10) d_Text_readLevel_2 (by decide) (by omega) (by omega) (fun c_2 => ?_) (fun c_2 => ?_)
  · skip
    exact absurd c_2 (by decide)
  · skip
    refine V.aload_n d_Text_readLevel_5 rfl ?_
    refine V.callV0 d_Text_readLevel_6 k_Text_105_Text_readPart_TextV (co_s (sc_tx (tx_ds u hu).1)) (Nat.le_of_ble_eq_true rfl) (by omega) (by omega) (hu2 _ _ s L h1 h2 hR (fun L2 hR2 => ?_))
    refine V.vret d_Text_readLevel_9 rfl (Nat.le_of_ble_eq_true rfl) (Nat.le_of_ble_eq_true rfl) ?_
    exact hQ L2 hR2
theorem d_Text_readLevel_31 : decode prog_9_method_7_code 31 = .ok (.iload_n 3, 1) := by decide +kernel
theorem d_Text_readLevel_32 : decode prog_9_method_7_code 32 = .ok (.iload_n 2, 1) := by decide +kernel
theorem d_Text_readLevel_33 : decode prog_9_method_7_code 33 = .ok (.if_icmp .ge 47, 3) := by decide +kernel
theorem d_Text_readLevel_80 : decode prog_9_method_7_code 80 = .ok (.return_, 1) := by decide +kernel
theorem d_Text_readLevel_36 : decode prog_9_method_7_code 36 = .ok (.aload_n 0, 1) := by decide +kernel
theorem d_Text_readLevel_37 : decode prog_9_method_7_code 37 = .ok (.iload_n 1, 1) := by decide +kernel
theorem d_Text_readLevel_38 : decode prog_9_method_7_code 38 = .ok (.invokestatic 108, 3) := by decide +kernel
theorem kB_Text_signsOf : kB M_Text_signsOf 1 := ⟨tm 4 (by decide +kernel) rfl, tm 384 (by decide +kernel) rfl, ⟨by decide, by decide, by decide +kernel⟩, by decide⟩
theorem k_Text_108_Text_signsOfS : kS "FelledByNames$Text" 108 M_Text_signsOf 1 := ⟨kB_Text_signsOf, tm 382 (by decide +kernel) rfl, tm 383 (by decide +kernel) rfl⟩
theorem d_Text_readLevel_41 : decode prog_9_method_7_code 41 = .ok (.invokevirtual 112, 3) := by decide +kernel
theorem d_Text_readLevel_44 : decode prog_9_method_7_code 44 = .ok (.istore 4, 2) := by decide +kernel
theorem d_Text_readLevel_46 : decode prog_9_method_7_code 46 = .ok (.iload 4, 2) := by decide +kernel
theorem d_Text_readLevel_48 : decode prog_9_method_7_code 48 = .ok (.ifCond .ge 6, 3) := by decide +kernel
theorem d_Text_readLevel_54 : decode prog_9_method_7_code 54 = .ok (.aload_n 0, 1) := by decide +kernel
theorem d_Text_readLevel_55 : decode prog_9_method_7_code 55 = .ok (.iload_n 1, 1) := by decide +kernel
theorem d_Text_readLevel_56 : decode prog_9_method_7_code 56 = .ok (.iconst 1, 1) := by decide +kernel
theorem d_Text_readLevel_57 : decode prog_9_method_7_code 57 = .ok (.iadd, 1) := by decide +kernel
theorem d_Text_readLevel_58 : decode prog_9_method_7_code 58 = .ok (.invokevirtual 86, 3) := by decide +kernel
theorem d_Text_readLevel_61 : decode prog_9_method_7_code 61 = .ok (.aload_n 0, 1) := by decide +kernel
theorem d_Text_readLevel_62 : decode prog_9_method_7_code 62 = .ok (.getfield 20, 3) := by decide +kernel
theorem d_Text_readLevel_65 : decode prog_9_method_7_code 65 = .ok (.sipush 20000, 3) := by decide +kernel
theorem d_Text_readLevel_68 : decode prog_9_method_7_code 68 = .ok (.iload 4, 2) := by decide +kernel
theorem d_Text_readLevel_70 : decode prog_9_method_7_code 70 = .ok (.iadd, 1) := by decide +kernel
theorem d_Text_readLevel_71 : decode prog_9_method_7_code 71 = .ok (.invokevirtual 64, 3) := by decide +kernel
theorem d_Text_readLevel_74 : decode prog_9_method_7_code 74 = .ok (.iinc 3 1, 3) := by decide +kernel
theorem d_Text_readLevel_77 : decode prog_9_method_7_code 77 = .ok (.goto (-46), 3) := by decide +kernel
theorem d_Text_readLevel_51 : decode prog_9_method_7_code 51 = .ok (.goto 29, 3) := by decide +kernel
set_option maxRecDepth 100000 in
theorem lev4_loop {l : Launch} {R W Z : Nat → Nat → Int32} {T : Nat → Nat → Nat} {kn : Kn} {h0 : HP} {u sz op : Nat} {u2 : PS → PS} {y n : Nat} {Q : QT} (hu : u < 2) (hsz : sz ≤ 50) (hz : Z 1 1 = nI sz) (hB : ∀ j, j < sz → ∃ c, c < 256 ∧ R 2 j = nI c) (gu : Gp sz u2) (hu2 : (∀ (n : Nat) (Q : QT) (s : PS) (L : List Nat), s.1 ≤ sz → s.2.2.length ≤ s.1 → RL s L → (∀ L2, RL (u2 s) L2 → Q none n (co (uA R (6 + 6 * u + 1) (wrt (R (6 + 6 * u + 1)) 0 (L2))) W (zT Z u (u2 s) (L2).length op) T kn h0)) → Ct l M_Text_readLevel (y + 5) 0 0 [.ref (3 + 6 * u), .int (nI 5)] n (co (uA R (6 + 6 * u + 1) (wrt (R (6 + 6 * u + 1)) 0 (L))) W (zT Z u (s) (L).length op) T kn h0) Q)) : ∀ (k i : Nat) (s : PS) (L : List Nat), i + k = 50 → s.1 ≤ sz → s.2.2.length ≤ s.1 → RL s L → (∀ L2, RL (lp (R 2) sz sg4 u2 k s) L2 → Q none n (co (uA R (6 + 6 * u + 1) (wrt (R (6 + 6 * u + 1)) 0 (L2))) W (zT Z u (lp (R 2) sz sg4 u2 k s) (L2).length op) T kn h0)) → V l M_Text_readLevel (y + 6) 0 0 31 [(0, .ref (3 + 6 * u)), (1, .int (nI 4)), (2, .int (nI 50)), (3, .int (nI i))] [] n (co (uA R (6 + 6 * u + 1) (wrt (R (6 + 6 * u + 1)) 0 (L))) W (zT Z u (s) (L).length op) T kn h0) 0 0 Q := by
  intro k
  induction k with
  | zero =>
    intro i s L hik h1 h2 hR hQ
    refine V.iload_n d_Text_readLevel_31 rfl ?_
    refine V.iload_n d_Text_readLevel_32 rfl ?_
    refine V.geN (tgt := 80) d_Text_readLevel_33 (by decide) (by omega) (by omega) (fun c_33 => ?_) (fun c_33 => ?_)
    · skip
      refine V.vret d_Text_readLevel_80 rfl (Nat.le_of_ble_eq_true rfl) (Nat.le_of_ble_eq_true rfl) ?_
      exact hQ L hR
    · skip
      exact absurd c_33 (by omega)
  | succ k ih =>
    intro i s L hik h1 h2 hR hQ
    refine V.iload_n d_Text_readLevel_31 rfl ?_
    refine V.iload_n d_Text_readLevel_32 rfl ?_
    refine V.geN (tgt := 80) d_Text_readLevel_33 (by decide) (by omega) (by omega) (fun c_33 => ?_) (fun c_33 => ?_)
    · skip
      exact absurd c_33 (by omega)
    · skip
      refine V.aload_n d_Text_readLevel_36 rfl ?_
      refine V.iload_n d_Text_readLevel_37 rfl ?_
      refine V.callS1 d_Text_readLevel_38 k_Text_108_Text_signsOfS (Nat.le_of_ble_eq_true rfl) (by omega) (by omega) (c_Text_signsOf (by decide) ?_)
      refine V.callV1 d_Text_readLevel_41 k_Text_112_Text_taken_TextV (co_s (sc_tx (tx_ds u hu).1)) (Nat.le_of_ble_eq_true rfl) (by omega) (by omega) (c_Text_taken (i := 8) (s := s) (by decide) (by decide) hu hsz hz hB h1 (fun hs => ?_) (fun hs => ?_))
      · skip
        have hsg : sg4 (hr (R 2) sz s) = true := hs
        obtain ⟨c, hc, ec, -, -⟩ := sg_nat (by first | exact Or.inl rfl | exact Or.inr (Or.inl rfl) | exact Or.inr (Or.inr (Or.inl rfl)) | exact Or.inr (Or.inr (Or.inr (Or.inl rfl))) | exact Or.inr (Or.inr (Or.inr (Or.inr rfl)))) hsg
        have hx := (hr_lt (by omega) ec).1
        have hxf := (hr_lt (by omega) ec).2
        obtain ⟨g1, g2, g3⟩ := gu (adv s) hx
        have ga : (adv s).1 = s.1 + 1 := rfl
        have gb : (adv s).2.2 = s.2.2 := rfl
        rw [ga] at g1 g3
        rw [gb] at g3
        have etn : (hr (R 2) sz s).toNatClampNeg < 200 := by rw [ec, icl (by omega)]; exact hc
        refine V.top (y := nI (hr (R 2) sz s).toNatClampNeg) (tn_nI (by omega) ec) ?_
        rw [show lp (R 2) sz sg4 u2 (k + 1) s = lp (R 2) sz sg4 u2 k (ly (20000 + (hr (R 2) sz s).toNatClampNeg) (u2 (adv s))) from if_pos hsg] at hQ
        refine V.istore d_Text_readLevel_44 (by decide) ?_
        refine V.iload d_Text_readLevel_46 rfl ?_
        refine V.if_ge (tgt := 54) d_Text_readLevel_48 (by decide) (fun c_48 => ?_) (fun c_48 => ?_)
        · skip
          refine V.aload_n d_Text_readLevel_54 rfl ?_
          refine V.iload_n d_Text_readLevel_55 rfl ?_
          refine V.iconst_ (nI 1) d_Text_readLevel_56 (by decide +kernel) ?_
          refine V.addN d_Text_readLevel_57 ?_
          refine V.callV1 d_Text_readLevel_58 k_Text_86_Text_readLevel_TextV (co_s (sc_tx (tx_ds u hu).1)) (Nat.le_of_ble_eq_true rfl) (by omega) (by omega) (hu2 _ _ (adv s) L hx (by show s.2.2.length ≤ s.1 + 1; omega) hR (fun L2 hR2 => ?_))
          refine V.aload_n d_Text_readLevel_61 rfl ?_
          refine V.get d_Text_readLevel_62 f_Text_20_Text (co_s (sc_tx (tx_ds u hu).1)) rfl ?_
          refine V.sipush_ (nI 20000) d_Text_readLevel_65 (by decide +kernel) ?_
          refine V.iload d_Text_readLevel_68 rfl ?_
          refine V.addN d_Text_readLevel_70 ?_
          refine V.callV1 d_Text_readLevel_71 k_Text_64_Row_add_RowV (co_s (sc_rw (tx_ds u hu).2.2.2.1)) (Nat.le_of_ble_eq_true rfl) (by omega) (by omega) (c_draft (v := 20000 + (hr (R 2) sz s).toNatClampNeg) (s := u2 (adv s)) hu hR2 (fun _ => by omega) (fun L3 hR3 => ?_))
          refine V.incN d_Text_readLevel_74 rfl (by decide) ?_
          refine V.goto (tgt := 31) d_Text_readLevel_77 (by decide) ?_
          have e9 := ly_len (w := 20000 + (hr (R 2) sz s).toNatClampNeg) (s := u2 (adv s))
          refine V.lc rfl (ih (i + 1) _ L3 (by omega) (by rw [ly_1]; exact g2) (by rw [ly_1]; omega) hR3 hQ)
        · skip
          exact absurd ((nI_leI (a := 0) (by decide) (by omega)).mpr (Nat.zero_le _)) c_48
      · skip
        rw [show lp (R 2) sz sg4 u2 (k + 1) s = s from if_neg (by show ¬ sg4 (hr (R 2) sz s) = true; exact Bool.eq_false_iff.mp hs)] at hQ
        refine V.istore d_Text_readLevel_44 (by decide) ?_
        refine V.iload d_Text_readLevel_46 rfl ?_
        refine V.if_ge (tgt := 54) d_Text_readLevel_48 (by decide) (fun c_48 => ?_) (fun c_48 => ?_)
        · skip
          exact absurd c_48 (by decide +kernel)
        · skip
          refine V.goto (tgt := 80) d_Text_readLevel_51 (by decide) ?_
          refine V.vret d_Text_readLevel_80 rfl (Nat.le_of_ble_eq_true rfl) (Nat.le_of_ble_eq_true rfl) ?_
          exact hQ L hR
theorem d_Text_readLevel_10 : decode prog_9_method_7_code 10 = .ok (.aload_n 0, 1) := by decide +kernel
theorem d_Text_readLevel_11 : decode prog_9_method_7_code 11 = .ok (.iload_n 1, 1) := by decide +kernel
theorem d_Text_readLevel_12 : decode prog_9_method_7_code 12 = .ok (.iconst 1, 1) := by decide +kernel
theorem d_Text_readLevel_13 : decode prog_9_method_7_code 13 = .ok (.iadd, 1) := by decide +kernel
theorem d_Text_readLevel_14 : decode prog_9_method_7_code 14 = .ok (.invokevirtual 86, 3) := by decide +kernel
theorem d_Text_readLevel_17 : decode prog_9_method_7_code 17 = .ok (.iload_n 1, 1) := by decide +kernel
theorem d_Text_readLevel_18 : decode prog_9_method_7_code 18 = .ok (.iconst 2, 1) := by decide +kernel
theorem d_Text_readLevel_19 : decode prog_9_method_7_code 19 = .ok (.if_icmp .ne 7, 3) := by decide +kernel
theorem d_Text_readLevel_26 : decode prog_9_method_7_code 26 = .ok (.bipush 50, 2) := by decide +kernel
theorem d_Text_readLevel_28 : decode prog_9_method_7_code 28 = .ok (.istore_n 2, 1) := by decide +kernel
theorem d_Text_readLevel_29 : decode prog_9_method_7_code 29 = .ok (.iconst 0, 1) := by decide +kernel
theorem d_Text_readLevel_30 : decode prog_9_method_7_code 30 = .ok (.istore_n 3, 1) := by decide +kernel
set_option maxRecDepth 100000 in
theorem level_4 {l : Launch} {R W Z : Nat → Nat → Int32} {T : Nat → Nat → Nat} {kn : Kn} {h0 : HP} {u sz op : Nat} {u2 : PS → PS} {y : Nat} (hu : u < 2) (hsz : sz ≤ 50) (hz : Z 1 1 = nI sz) (hB : ∀ j, j < sz → ∃ c, c < 256 ∧ R 2 j = nI c) (gu : Gp sz u2) (hu2 : (∀ (n : Nat) (Q : QT) (s : PS) (L : List Nat), s.1 ≤ sz → s.2.2.length ≤ s.1 → RL s L → (∀ L2, RL (u2 s) L2 → Q none n (co (uA R (6 + 6 * u + 1) (wrt (R (6 + 6 * u + 1)) 0 (L2))) W (zT Z u (u2 s) (L2).length op) T kn h0)) → Ct l M_Text_readLevel (y + 5) 0 0 [.ref (3 + 6 * u), .int (nI 5)] n (co (uA R (6 + 6 * u + 1) (wrt (R (6 + 6 * u + 1)) 0 (L))) W (zT Z u (s) (L).length op) T kn h0) Q)) : ∀ (n : Nat) (Q : QT) (s : PS) (L : List Nat), s.1 ≤ sz → s.2.2.length ≤ s.1 → RL s L → (∀ L2, RL (lp (R 2) sz sg4 u2 50 (u2 s)) L2 → Q none n (co (uA R (6 + 6 * u + 1) (wrt (R (6 + 6 * u + 1)) 0 (L2))) W (zT Z u (lp (R 2) sz sg4 u2 50 (u2 s)) (L2).length op) T kn h0)) → Ct l M_Text_readLevel (y + 6) 0 0 [.ref (3 + 6 * u), .int (nI 4)] n (co (uA R (6 + 6 * u + 1) (wrt (R (6 + 6 * u + 1)) 0 (L))) W (zT Z u (s) (L).length op) T kn h0) Q := by
  intro n Q s L h1 h2 hR hQ
  obtain ⟨g1, g2, g3⟩ := gu s h1
  refine Ct.of (fun _ => trivial) (by decide) (Nat.le_of_ble_eq_true rfl) ?_
  refine V.iload_n d_Text_readLevel_0 rfl ?_
  refine V.iconst_ (nI 5) d_Text_readLevel_1 (by decide +kernel) ?_
  refine V.ltN (tgt := 10) d_Text_readLevel_2 (by decide) (by omega) (by omega) (fun c_2 => ?_) (fun c_2 => ?_)
  · skip
    refine V.aload_n d_Text_readLevel_10 rfl ?_
    refine V.iload_n d_Text_readLevel_11 rfl ?_
    refine V.iconst_ (nI 1) d_Text_readLevel_12 (by decide +kernel) ?_
    refine V.addN d_Text_readLevel_13 ?_
    refine V.callV1 d_Text_readLevel_14 k_Text_86_Text_readLevel_TextV (co_s (sc_tx (tx_ds u hu).1)) (Nat.le_of_ble_eq_true rfl) (by omega) (by omega) (hu2 _ _ s L h1 h2 hR (fun L2 hR2 => ?_))
    refine V.iload_n d_Text_readLevel_17 rfl ?_
    refine V.iconst_ (nI 2) d_Text_readLevel_18 (by decide +kernel) ?_
    refine V.neN (tgt := 26) d_Text_readLevel_19 (by decide) (by omega) (by omega) (fun c_19 => ?_) (fun c_19 => ?_)
    · skip
      refine V.bipush_ (nI 50) d_Text_readLevel_26 (by decide +kernel) ?_
      refine V.istore_n d_Text_readLevel_28 (by decide) ?_
      refine V.iconst_ (nI 0) d_Text_readLevel_29 (by decide +kernel) ?_
      refine V.istore_n d_Text_readLevel_30 (by decide) ?_
      exact V.lc rfl (lev4_loop hu hsz hz hB gu hu2 50 0 (u2 s) L2 (by omega) g2 (by omega) hR2 hQ)
    · skip
      exact absurd c_19 (by decide)
  · skip
    exact absurd c_2 (by decide)
set_option maxRecDepth 100000 in
theorem lev3_loop {l : Launch} {R W Z : Nat → Nat → Int32} {T : Nat → Nat → Nat} {kn : Kn} {h0 : HP} {u sz op : Nat} {u2 : PS → PS} {y n : Nat} {Q : QT} (hu : u < 2) (hsz : sz ≤ 50) (hz : Z 1 1 = nI sz) (hB : ∀ j, j < sz → ∃ c, c < 256 ∧ R 2 j = nI c) (gu : Gp sz u2) (hu2 : (∀ (n : Nat) (Q : QT) (s : PS) (L : List Nat), s.1 ≤ sz → s.2.2.length ≤ s.1 → RL s L → (∀ L2, RL (u2 s) L2 → Q none n (co (uA R (6 + 6 * u + 1) (wrt (R (6 + 6 * u + 1)) 0 (L2))) W (zT Z u (u2 s) (L2).length op) T kn h0)) → Ct l M_Text_readLevel (y + 5) 0 0 [.ref (3 + 6 * u), .int (nI 4)] n (co (uA R (6 + 6 * u + 1) (wrt (R (6 + 6 * u + 1)) 0 (L))) W (zT Z u (s) (L).length op) T kn h0) Q)) : ∀ (k i : Nat) (s : PS) (L : List Nat), i + k = 50 → s.1 ≤ sz → s.2.2.length ≤ s.1 → RL s L → (∀ L2, RL (lp (R 2) sz sg3 u2 k s) L2 → Q none n (co (uA R (6 + 6 * u + 1) (wrt (R (6 + 6 * u + 1)) 0 (L2))) W (zT Z u (lp (R 2) sz sg3 u2 k s) (L2).length op) T kn h0)) → V l M_Text_readLevel (y + 6) 0 0 31 [(0, .ref (3 + 6 * u)), (1, .int (nI 3)), (2, .int (nI 50)), (3, .int (nI i))] [] n (co (uA R (6 + 6 * u + 1) (wrt (R (6 + 6 * u + 1)) 0 (L))) W (zT Z u (s) (L).length op) T kn h0) 0 0 Q := by
  intro k
  induction k with
  | zero =>
    intro i s L hik h1 h2 hR hQ
    refine V.iload_n d_Text_readLevel_31 rfl ?_
    refine V.iload_n d_Text_readLevel_32 rfl ?_
    refine V.geN (tgt := 80) d_Text_readLevel_33 (by decide) (by omega) (by omega) (fun c_33 => ?_) (fun c_33 => ?_)
    · skip
      refine V.vret d_Text_readLevel_80 rfl (Nat.le_of_ble_eq_true rfl) (Nat.le_of_ble_eq_true rfl) ?_
      exact hQ L hR
    · skip
      exact absurd c_33 (by omega)
  | succ k ih =>
    intro i s L hik h1 h2 hR hQ
    refine V.iload_n d_Text_readLevel_31 rfl ?_
    refine V.iload_n d_Text_readLevel_32 rfl ?_
    refine V.geN (tgt := 80) d_Text_readLevel_33 (by decide) (by omega) (by omega) (fun c_33 => ?_) (fun c_33 => ?_)
    · skip
      exact absurd c_33 (by omega)
    · skip
      refine V.aload_n d_Text_readLevel_36 rfl ?_
      refine V.iload_n d_Text_readLevel_37 rfl ?_
      refine V.callS1 d_Text_readLevel_38 k_Text_108_Text_signsOfS (Nat.le_of_ble_eq_true rfl) (by omega) (by omega) (c_Text_signsOf (by decide) ?_)
      refine V.callV1 d_Text_readLevel_41 k_Text_112_Text_taken_TextV (co_s (sc_tx (tx_ds u hu).1)) (Nat.le_of_ble_eq_true rfl) (by omega) (by omega) (c_Text_taken (i := 7) (s := s) (by decide) (by decide) hu hsz hz hB h1 (fun hs => ?_) (fun hs => ?_))
      · skip
        have hsg : sg3 (hr (R 2) sz s) = true := hs
        obtain ⟨c, hc, ec, -, -⟩ := sg_nat (by first | exact Or.inl rfl | exact Or.inr (Or.inl rfl) | exact Or.inr (Or.inr (Or.inl rfl)) | exact Or.inr (Or.inr (Or.inr (Or.inl rfl))) | exact Or.inr (Or.inr (Or.inr (Or.inr rfl)))) hsg
        have hx := (hr_lt (by omega) ec).1
        have hxf := (hr_lt (by omega) ec).2
        obtain ⟨g1, g2, g3⟩ := gu (adv s) hx
        have ga : (adv s).1 = s.1 + 1 := rfl
        have gb : (adv s).2.2 = s.2.2 := rfl
        rw [ga] at g1 g3
        rw [gb] at g3
        have etn : (hr (R 2) sz s).toNatClampNeg < 200 := by rw [ec, icl (by omega)]; exact hc
        refine V.top (y := nI (hr (R 2) sz s).toNatClampNeg) (tn_nI (by omega) ec) ?_
        rw [show lp (R 2) sz sg3 u2 (k + 1) s = lp (R 2) sz sg3 u2 k (ly (20000 + (hr (R 2) sz s).toNatClampNeg) (u2 (adv s))) from if_pos hsg] at hQ
        refine V.istore d_Text_readLevel_44 (by decide) ?_
        refine V.iload d_Text_readLevel_46 rfl ?_
        refine V.if_ge (tgt := 54) d_Text_readLevel_48 (by decide) (fun c_48 => ?_) (fun c_48 => ?_)
        · skip
          refine V.aload_n d_Text_readLevel_54 rfl ?_
          refine V.iload_n d_Text_readLevel_55 rfl ?_
          refine V.iconst_ (nI 1) d_Text_readLevel_56 (by decide +kernel) ?_
          refine V.addN d_Text_readLevel_57 ?_
          refine V.callV1 d_Text_readLevel_58 k_Text_86_Text_readLevel_TextV (co_s (sc_tx (tx_ds u hu).1)) (Nat.le_of_ble_eq_true rfl) (by omega) (by omega) (hu2 _ _ (adv s) L hx (by show s.2.2.length ≤ s.1 + 1; omega) hR (fun L2 hR2 => ?_))
          refine V.aload_n d_Text_readLevel_61 rfl ?_
          refine V.get d_Text_readLevel_62 f_Text_20_Text (co_s (sc_tx (tx_ds u hu).1)) rfl ?_
          refine V.sipush_ (nI 20000) d_Text_readLevel_65 (by decide +kernel) ?_
          refine V.iload d_Text_readLevel_68 rfl ?_
          refine V.addN d_Text_readLevel_70 ?_
          refine V.callV1 d_Text_readLevel_71 k_Text_64_Row_add_RowV (co_s (sc_rw (tx_ds u hu).2.2.2.1)) (Nat.le_of_ble_eq_true rfl) (by omega) (by omega) (c_draft (v := 20000 + (hr (R 2) sz s).toNatClampNeg) (s := u2 (adv s)) hu hR2 (fun _ => by omega) (fun L3 hR3 => ?_))
          refine V.incN d_Text_readLevel_74 rfl (by decide) ?_
          refine V.goto (tgt := 31) d_Text_readLevel_77 (by decide) ?_
          have e9 := ly_len (w := 20000 + (hr (R 2) sz s).toNatClampNeg) (s := u2 (adv s))
          refine V.lc rfl (ih (i + 1) _ L3 (by omega) (by rw [ly_1]; exact g2) (by rw [ly_1]; omega) hR3 hQ)
        · skip
          exact absurd ((nI_leI (a := 0) (by decide) (by omega)).mpr (Nat.zero_le _)) c_48
      · skip
        rw [show lp (R 2) sz sg3 u2 (k + 1) s = s from if_neg (by show ¬ sg3 (hr (R 2) sz s) = true; exact Bool.eq_false_iff.mp hs)] at hQ
        refine V.istore d_Text_readLevel_44 (by decide) ?_
        refine V.iload d_Text_readLevel_46 rfl ?_
        refine V.if_ge (tgt := 54) d_Text_readLevel_48 (by decide) (fun c_48 => ?_) (fun c_48 => ?_)
        · skip
          exact absurd c_48 (by decide +kernel)
        · skip
          refine V.goto (tgt := 80) d_Text_readLevel_51 (by decide) ?_
          refine V.vret d_Text_readLevel_80 rfl (Nat.le_of_ble_eq_true rfl) (Nat.le_of_ble_eq_true rfl) ?_
          exact hQ L hR
set_option maxRecDepth 100000 in
theorem level_3 {l : Launch} {R W Z : Nat → Nat → Int32} {T : Nat → Nat → Nat} {kn : Kn} {h0 : HP} {u sz op : Nat} {u2 : PS → PS} {y : Nat} (hu : u < 2) (hsz : sz ≤ 50) (hz : Z 1 1 = nI sz) (hB : ∀ j, j < sz → ∃ c, c < 256 ∧ R 2 j = nI c) (gu : Gp sz u2) (hu2 : (∀ (n : Nat) (Q : QT) (s : PS) (L : List Nat), s.1 ≤ sz → s.2.2.length ≤ s.1 → RL s L → (∀ L2, RL (u2 s) L2 → Q none n (co (uA R (6 + 6 * u + 1) (wrt (R (6 + 6 * u + 1)) 0 (L2))) W (zT Z u (u2 s) (L2).length op) T kn h0)) → Ct l M_Text_readLevel (y + 5) 0 0 [.ref (3 + 6 * u), .int (nI 4)] n (co (uA R (6 + 6 * u + 1) (wrt (R (6 + 6 * u + 1)) 0 (L))) W (zT Z u (s) (L).length op) T kn h0) Q)) : ∀ (n : Nat) (Q : QT) (s : PS) (L : List Nat), s.1 ≤ sz → s.2.2.length ≤ s.1 → RL s L → (∀ L2, RL (lp (R 2) sz sg3 u2 50 (u2 s)) L2 → Q none n (co (uA R (6 + 6 * u + 1) (wrt (R (6 + 6 * u + 1)) 0 (L2))) W (zT Z u (lp (R 2) sz sg3 u2 50 (u2 s)) (L2).length op) T kn h0)) → Ct l M_Text_readLevel (y + 6) 0 0 [.ref (3 + 6 * u), .int (nI 3)] n (co (uA R (6 + 6 * u + 1) (wrt (R (6 + 6 * u + 1)) 0 (L))) W (zT Z u (s) (L).length op) T kn h0) Q := by
  intro n Q s L h1 h2 hR hQ
  obtain ⟨g1, g2, g3⟩ := gu s h1
  refine Ct.of (fun _ => trivial) (by decide) (Nat.le_of_ble_eq_true rfl) ?_
  refine V.iload_n d_Text_readLevel_0 rfl ?_
  refine V.iconst_ (nI 5) d_Text_readLevel_1 (by decide +kernel) ?_
  refine V.ltN (tgt := 10) d_Text_readLevel_2 (by decide) (by omega) (by omega) (fun c_2 => ?_) (fun c_2 => ?_)
  · skip
    refine V.aload_n d_Text_readLevel_10 rfl ?_
    refine V.iload_n d_Text_readLevel_11 rfl ?_
    refine V.iconst_ (nI 1) d_Text_readLevel_12 (by decide +kernel) ?_
    refine V.addN d_Text_readLevel_13 ?_
    refine V.callV1 d_Text_readLevel_14 k_Text_86_Text_readLevel_TextV (co_s (sc_tx (tx_ds u hu).1)) (Nat.le_of_ble_eq_true rfl) (by omega) (by omega) (hu2 _ _ s L h1 h2 hR (fun L2 hR2 => ?_))
    refine V.iload_n d_Text_readLevel_17 rfl ?_
    refine V.iconst_ (nI 2) d_Text_readLevel_18 (by decide +kernel) ?_
    refine V.neN (tgt := 26) d_Text_readLevel_19 (by decide) (by omega) (by omega) (fun c_19 => ?_) (fun c_19 => ?_)
    · skip
      refine V.bipush_ (nI 50) d_Text_readLevel_26 (by decide +kernel) ?_
      refine V.istore_n d_Text_readLevel_28 (by decide) ?_
      refine V.iconst_ (nI 0) d_Text_readLevel_29 (by decide +kernel) ?_
      refine V.istore_n d_Text_readLevel_30 (by decide) ?_
      exact V.lc rfl (lev3_loop hu hsz hz hB gu hu2 50 0 (u2 s) L2 (by omega) g2 (by omega) hR2 hQ)
    · skip
      exact absurd c_19 (by decide)
  · skip
    exact absurd c_2 (by decide)
set_option maxRecDepth 100000 in
theorem lev2_loop {l : Launch} {R W Z : Nat → Nat → Int32} {T : Nat → Nat → Nat} {kn : Kn} {h0 : HP} {u sz op : Nat} {u2 : PS → PS} {y n : Nat} {Q : QT} (hu : u < 2) (hsz : sz ≤ 50) (hz : Z 1 1 = nI sz) (hB : ∀ j, j < sz → ∃ c, c < 256 ∧ R 2 j = nI c) (gu : Gp sz u2) (hu2 : (∀ (n : Nat) (Q : QT) (s : PS) (L : List Nat), s.1 ≤ sz → s.2.2.length ≤ s.1 → RL s L → (∀ L2, RL (u2 s) L2 → Q none n (co (uA R (6 + 6 * u + 1) (wrt (R (6 + 6 * u + 1)) 0 (L2))) W (zT Z u (u2 s) (L2).length op) T kn h0)) → Ct l M_Text_readLevel (y + 5) 0 0 [.ref (3 + 6 * u), .int (nI 3)] n (co (uA R (6 + 6 * u + 1) (wrt (R (6 + 6 * u + 1)) 0 (L))) W (zT Z u (s) (L).length op) T kn h0) Q)) : ∀ (k i : Nat) (s : PS) (L : List Nat), i + k = 1 → s.1 ≤ sz → s.2.2.length ≤ s.1 → RL s L → (∀ L2, RL (lp (R 2) sz sg2 u2 k s) L2 → Q none n (co (uA R (6 + 6 * u + 1) (wrt (R (6 + 6 * u + 1)) 0 (L2))) W (zT Z u (lp (R 2) sz sg2 u2 k s) (L2).length op) T kn h0)) → V l M_Text_readLevel (y + 6) 0 0 31 [(0, .ref (3 + 6 * u)), (1, .int (nI 2)), (2, .int (nI 1)), (3, .int (nI i))] [] n (co (uA R (6 + 6 * u + 1) (wrt (R (6 + 6 * u + 1)) 0 (L))) W (zT Z u (s) (L).length op) T kn h0) 0 0 Q := by
  intro k
  induction k with
  | zero =>
    intro i s L hik h1 h2 hR hQ
    refine V.iload_n d_Text_readLevel_31 rfl ?_
    refine V.iload_n d_Text_readLevel_32 rfl ?_
    refine V.geN (tgt := 80) d_Text_readLevel_33 (by decide) (by omega) (by omega) (fun c_33 => ?_) (fun c_33 => ?_)
    · skip
      refine V.vret d_Text_readLevel_80 rfl (Nat.le_of_ble_eq_true rfl) (Nat.le_of_ble_eq_true rfl) ?_
      exact hQ L hR
    · skip
      exact absurd c_33 (by omega)
  | succ k ih =>
    intro i s L hik h1 h2 hR hQ
    refine V.iload_n d_Text_readLevel_31 rfl ?_
    refine V.iload_n d_Text_readLevel_32 rfl ?_
    refine V.geN (tgt := 80) d_Text_readLevel_33 (by decide) (by omega) (by omega) (fun c_33 => ?_) (fun c_33 => ?_)
    · skip
      exact absurd c_33 (by omega)
    · skip
      refine V.aload_n d_Text_readLevel_36 rfl ?_
      refine V.iload_n d_Text_readLevel_37 rfl ?_
      refine V.callS1 d_Text_readLevel_38 k_Text_108_Text_signsOfS (Nat.le_of_ble_eq_true rfl) (by omega) (by omega) (c_Text_signsOf (by decide) ?_)
      refine V.callV1 d_Text_readLevel_41 k_Text_112_Text_taken_TextV (co_s (sc_tx (tx_ds u hu).1)) (Nat.le_of_ble_eq_true rfl) (by omega) (by omega) (c_Text_taken (i := 6) (s := s) (by decide) (by decide) hu hsz hz hB h1 (fun hs => ?_) (fun hs => ?_))
      · skip
        have hsg : sg2 (hr (R 2) sz s) = true := hs
        obtain ⟨c, hc, ec, -, -⟩ := sg_nat (by first | exact Or.inl rfl | exact Or.inr (Or.inl rfl) | exact Or.inr (Or.inr (Or.inl rfl)) | exact Or.inr (Or.inr (Or.inr (Or.inl rfl))) | exact Or.inr (Or.inr (Or.inr (Or.inr rfl)))) hsg
        have hx := (hr_lt (by omega) ec).1
        have hxf := (hr_lt (by omega) ec).2
        obtain ⟨g1, g2, g3⟩ := gu (adv s) hx
        have ga : (adv s).1 = s.1 + 1 := rfl
        have gb : (adv s).2.2 = s.2.2 := rfl
        rw [ga] at g1 g3
        rw [gb] at g3
        have etn : (hr (R 2) sz s).toNatClampNeg < 200 := by rw [ec, icl (by omega)]; exact hc
        refine V.top (y := nI (hr (R 2) sz s).toNatClampNeg) (tn_nI (by omega) ec) ?_
        rw [show lp (R 2) sz sg2 u2 (k + 1) s = lp (R 2) sz sg2 u2 k (ly (20000 + (hr (R 2) sz s).toNatClampNeg) (u2 (adv s))) from if_pos hsg] at hQ
        refine V.istore d_Text_readLevel_44 (by decide) ?_
        refine V.iload d_Text_readLevel_46 rfl ?_
        refine V.if_ge (tgt := 54) d_Text_readLevel_48 (by decide) (fun c_48 => ?_) (fun c_48 => ?_)
        · skip
          refine V.aload_n d_Text_readLevel_54 rfl ?_
          refine V.iload_n d_Text_readLevel_55 rfl ?_
          refine V.iconst_ (nI 1) d_Text_readLevel_56 (by decide +kernel) ?_
          refine V.addN d_Text_readLevel_57 ?_
          refine V.callV1 d_Text_readLevel_58 k_Text_86_Text_readLevel_TextV (co_s (sc_tx (tx_ds u hu).1)) (Nat.le_of_ble_eq_true rfl) (by omega) (by omega) (hu2 _ _ (adv s) L hx (by show s.2.2.length ≤ s.1 + 1; omega) hR (fun L2 hR2 => ?_))
          refine V.aload_n d_Text_readLevel_61 rfl ?_
          refine V.get d_Text_readLevel_62 f_Text_20_Text (co_s (sc_tx (tx_ds u hu).1)) rfl ?_
          refine V.sipush_ (nI 20000) d_Text_readLevel_65 (by decide +kernel) ?_
          refine V.iload d_Text_readLevel_68 rfl ?_
          refine V.addN d_Text_readLevel_70 ?_
          refine V.callV1 d_Text_readLevel_71 k_Text_64_Row_add_RowV (co_s (sc_rw (tx_ds u hu).2.2.2.1)) (Nat.le_of_ble_eq_true rfl) (by omega) (by omega) (c_draft (v := 20000 + (hr (R 2) sz s).toNatClampNeg) (s := u2 (adv s)) hu hR2 (fun _ => by omega) (fun L3 hR3 => ?_))
          refine V.incN d_Text_readLevel_74 rfl (by decide) ?_
          refine V.goto (tgt := 31) d_Text_readLevel_77 (by decide) ?_
          have e9 := ly_len (w := 20000 + (hr (R 2) sz s).toNatClampNeg) (s := u2 (adv s))
          refine V.lc rfl (ih (i + 1) _ L3 (by omega) (by rw [ly_1]; exact g2) (by rw [ly_1]; omega) hR3 hQ)
        · skip
          exact absurd ((nI_leI (a := 0) (by decide) (by omega)).mpr (Nat.zero_le _)) c_48
      · skip
        rw [show lp (R 2) sz sg2 u2 (k + 1) s = s from if_neg (by show ¬ sg2 (hr (R 2) sz s) = true; exact Bool.eq_false_iff.mp hs)] at hQ
        refine V.istore d_Text_readLevel_44 (by decide) ?_
        refine V.iload d_Text_readLevel_46 rfl ?_
        refine V.if_ge (tgt := 54) d_Text_readLevel_48 (by decide) (fun c_48 => ?_) (fun c_48 => ?_)
        · skip
          exact absurd c_48 (by decide +kernel)
        · skip
          refine V.goto (tgt := 80) d_Text_readLevel_51 (by decide) ?_
          refine V.vret d_Text_readLevel_80 rfl (Nat.le_of_ble_eq_true rfl) (Nat.le_of_ble_eq_true rfl) ?_
          exact hQ L hR
theorem d_Text_readLevel_22 : decode prog_9_method_7_code 22 = .ok (.iconst 1, 1) := by decide +kernel
theorem d_Text_readLevel_23 : decode prog_9_method_7_code 23 = .ok (.goto 5, 3) := by decide +kernel
set_option maxRecDepth 100000 in
theorem level_2 {l : Launch} {R W Z : Nat → Nat → Int32} {T : Nat → Nat → Nat} {kn : Kn} {h0 : HP} {u sz op : Nat} {u2 : PS → PS} {y : Nat} (hu : u < 2) (hsz : sz ≤ 50) (hz : Z 1 1 = nI sz) (hB : ∀ j, j < sz → ∃ c, c < 256 ∧ R 2 j = nI c) (gu : Gp sz u2) (hu2 : (∀ (n : Nat) (Q : QT) (s : PS) (L : List Nat), s.1 ≤ sz → s.2.2.length ≤ s.1 → RL s L → (∀ L2, RL (u2 s) L2 → Q none n (co (uA R (6 + 6 * u + 1) (wrt (R (6 + 6 * u + 1)) 0 (L2))) W (zT Z u (u2 s) (L2).length op) T kn h0)) → Ct l M_Text_readLevel (y + 5) 0 0 [.ref (3 + 6 * u), .int (nI 3)] n (co (uA R (6 + 6 * u + 1) (wrt (R (6 + 6 * u + 1)) 0 (L))) W (zT Z u (s) (L).length op) T kn h0) Q)) : ∀ (n : Nat) (Q : QT) (s : PS) (L : List Nat), s.1 ≤ sz → s.2.2.length ≤ s.1 → RL s L → (∀ L2, RL (lp (R 2) sz sg2 u2 1 (u2 s)) L2 → Q none n (co (uA R (6 + 6 * u + 1) (wrt (R (6 + 6 * u + 1)) 0 (L2))) W (zT Z u (lp (R 2) sz sg2 u2 1 (u2 s)) (L2).length op) T kn h0)) → Ct l M_Text_readLevel (y + 6) 0 0 [.ref (3 + 6 * u), .int (nI 2)] n (co (uA R (6 + 6 * u + 1) (wrt (R (6 + 6 * u + 1)) 0 (L))) W (zT Z u (s) (L).length op) T kn h0) Q := by
  intro n Q s L h1 h2 hR hQ
  obtain ⟨g1, g2, g3⟩ := gu s h1
  refine Ct.of (fun _ => trivial) (by decide) (Nat.le_of_ble_eq_true rfl) ?_
  refine V.iload_n d_Text_readLevel_0 rfl ?_
  refine V.iconst_ (nI 5) d_Text_readLevel_1 (by decide +kernel) ?_
  refine V.ltN (tgt := 10) d_Text_readLevel_2 (by decide) (by omega) (by omega) (fun c_2 => ?_) (fun c_2 => ?_)
  · skip
    refine V.aload_n d_Text_readLevel_10 rfl ?_
    refine V.iload_n d_Text_readLevel_11 rfl ?_
    refine V.iconst_ (nI 1) d_Text_readLevel_12 (by decide +kernel) ?_
    refine V.addN d_Text_readLevel_13 ?_
    refine V.callV1 d_Text_readLevel_14 k_Text_86_Text_readLevel_TextV (co_s (sc_tx (tx_ds u hu).1)) (Nat.le_of_ble_eq_true rfl) (by omega) (by omega) (hu2 _ _ s L h1 h2 hR (fun L2 hR2 => ?_))
    refine V.iload_n d_Text_readLevel_17 rfl ?_
    refine V.iconst_ (nI 2) d_Text_readLevel_18 (by decide +kernel) ?_
    refine V.neN (tgt := 26) d_Text_readLevel_19 (by decide) (by omega) (by omega) (fun c_19 => ?_) (fun c_19 => ?_)
    · skip
      exact absurd rfl c_19
    · skip
      refine V.iconst_ (nI 1) d_Text_readLevel_22 (by decide +kernel) ?_
      refine V.goto (tgt := 28) d_Text_readLevel_23 (by decide) ?_
      refine V.istore_n d_Text_readLevel_28 (by decide) ?_
      refine V.iconst_ (nI 0) d_Text_readLevel_29 (by decide +kernel) ?_
      refine V.istore_n d_Text_readLevel_30 (by decide) ?_
      exact V.lc rfl (lev2_loop hu hsz hz hB gu hu2 1 0 (u2 s) L2 (by omega) g2 (by omega) hR2 hQ)
  · skip
    exact absurd c_2 (by decide)
set_option maxRecDepth 100000 in
theorem lev1_loop {l : Launch} {R W Z : Nat → Nat → Int32} {T : Nat → Nat → Nat} {kn : Kn} {h0 : HP} {u sz op : Nat} {u2 : PS → PS} {y n : Nat} {Q : QT} (hu : u < 2) (hsz : sz ≤ 50) (hz : Z 1 1 = nI sz) (hB : ∀ j, j < sz → ∃ c, c < 256 ∧ R 2 j = nI c) (gu : Gp sz u2) (hu2 : (∀ (n : Nat) (Q : QT) (s : PS) (L : List Nat), s.1 ≤ sz → s.2.2.length ≤ s.1 → RL s L → (∀ L2, RL (u2 s) L2 → Q none n (co (uA R (6 + 6 * u + 1) (wrt (R (6 + 6 * u + 1)) 0 (L2))) W (zT Z u (u2 s) (L2).length op) T kn h0)) → Ct l M_Text_readLevel (y + 5) 0 0 [.ref (3 + 6 * u), .int (nI 2)] n (co (uA R (6 + 6 * u + 1) (wrt (R (6 + 6 * u + 1)) 0 (L))) W (zT Z u (s) (L).length op) T kn h0) Q)) : ∀ (k i : Nat) (s : PS) (L : List Nat), i + k = 50 → s.1 ≤ sz → s.2.2.length ≤ s.1 → RL s L → (∀ L2, RL (lp (R 2) sz sg1 u2 k s) L2 → Q none n (co (uA R (6 + 6 * u + 1) (wrt (R (6 + 6 * u + 1)) 0 (L2))) W (zT Z u (lp (R 2) sz sg1 u2 k s) (L2).length op) T kn h0)) → V l M_Text_readLevel (y + 6) 0 0 31 [(0, .ref (3 + 6 * u)), (1, .int (nI 1)), (2, .int (nI 50)), (3, .int (nI i))] [] n (co (uA R (6 + 6 * u + 1) (wrt (R (6 + 6 * u + 1)) 0 (L))) W (zT Z u (s) (L).length op) T kn h0) 0 0 Q := by
  intro k
  induction k with
  | zero =>
    intro i s L hik h1 h2 hR hQ
    refine V.iload_n d_Text_readLevel_31 rfl ?_
    refine V.iload_n d_Text_readLevel_32 rfl ?_
    refine V.geN (tgt := 80) d_Text_readLevel_33 (by decide) (by omega) (by omega) (fun c_33 => ?_) (fun c_33 => ?_)
    · skip
      refine V.vret d_Text_readLevel_80 rfl (Nat.le_of_ble_eq_true rfl) (Nat.le_of_ble_eq_true rfl) ?_
      exact hQ L hR
    · skip
      exact absurd c_33 (by omega)
  | succ k ih =>
    intro i s L hik h1 h2 hR hQ
    refine V.iload_n d_Text_readLevel_31 rfl ?_
    refine V.iload_n d_Text_readLevel_32 rfl ?_
    refine V.geN (tgt := 80) d_Text_readLevel_33 (by decide) (by omega) (by omega) (fun c_33 => ?_) (fun c_33 => ?_)
    · skip
      exact absurd c_33 (by omega)
    · skip
      refine V.aload_n d_Text_readLevel_36 rfl ?_
      refine V.iload_n d_Text_readLevel_37 rfl ?_
      refine V.callS1 d_Text_readLevel_38 k_Text_108_Text_signsOfS (Nat.le_of_ble_eq_true rfl) (by omega) (by omega) (c_Text_signsOf (by decide) ?_)
      refine V.callV1 d_Text_readLevel_41 k_Text_112_Text_taken_TextV (co_s (sc_tx (tx_ds u hu).1)) (Nat.le_of_ble_eq_true rfl) (by omega) (by omega) (c_Text_taken (i := 5) (s := s) (by decide) (by decide) hu hsz hz hB h1 (fun hs => ?_) (fun hs => ?_))
      · skip
        have hsg : sg1 (hr (R 2) sz s) = true := hs
        obtain ⟨c, hc, ec, -, -⟩ := sg_nat (by first | exact Or.inl rfl | exact Or.inr (Or.inl rfl) | exact Or.inr (Or.inr (Or.inl rfl)) | exact Or.inr (Or.inr (Or.inr (Or.inl rfl))) | exact Or.inr (Or.inr (Or.inr (Or.inr rfl)))) hsg
        have hx := (hr_lt (by omega) ec).1
        have hxf := (hr_lt (by omega) ec).2
        obtain ⟨g1, g2, g3⟩ := gu (adv s) hx
        have ga : (adv s).1 = s.1 + 1 := rfl
        have gb : (adv s).2.2 = s.2.2 := rfl
        rw [ga] at g1 g3
        rw [gb] at g3
        have etn : (hr (R 2) sz s).toNatClampNeg < 200 := by rw [ec, icl (by omega)]; exact hc
        refine V.top (y := nI (hr (R 2) sz s).toNatClampNeg) (tn_nI (by omega) ec) ?_
        rw [show lp (R 2) sz sg1 u2 (k + 1) s = lp (R 2) sz sg1 u2 k (ly (20000 + (hr (R 2) sz s).toNatClampNeg) (u2 (adv s))) from if_pos hsg] at hQ
        refine V.istore d_Text_readLevel_44 (by decide) ?_
        refine V.iload d_Text_readLevel_46 rfl ?_
        refine V.if_ge (tgt := 54) d_Text_readLevel_48 (by decide) (fun c_48 => ?_) (fun c_48 => ?_)
        · skip
          refine V.aload_n d_Text_readLevel_54 rfl ?_
          refine V.iload_n d_Text_readLevel_55 rfl ?_
          refine V.iconst_ (nI 1) d_Text_readLevel_56 (by decide +kernel) ?_
          refine V.addN d_Text_readLevel_57 ?_
          refine V.callV1 d_Text_readLevel_58 k_Text_86_Text_readLevel_TextV (co_s (sc_tx (tx_ds u hu).1)) (Nat.le_of_ble_eq_true rfl) (by omega) (by omega) (hu2 _ _ (adv s) L hx (by show s.2.2.length ≤ s.1 + 1; omega) hR (fun L2 hR2 => ?_))
          refine V.aload_n d_Text_readLevel_61 rfl ?_
          refine V.get d_Text_readLevel_62 f_Text_20_Text (co_s (sc_tx (tx_ds u hu).1)) rfl ?_
          refine V.sipush_ (nI 20000) d_Text_readLevel_65 (by decide +kernel) ?_
          refine V.iload d_Text_readLevel_68 rfl ?_
          refine V.addN d_Text_readLevel_70 ?_
          refine V.callV1 d_Text_readLevel_71 k_Text_64_Row_add_RowV (co_s (sc_rw (tx_ds u hu).2.2.2.1)) (Nat.le_of_ble_eq_true rfl) (by omega) (by omega) (c_draft (v := 20000 + (hr (R 2) sz s).toNatClampNeg) (s := u2 (adv s)) hu hR2 (fun _ => by omega) (fun L3 hR3 => ?_))
          refine V.incN d_Text_readLevel_74 rfl (by decide) ?_
          refine V.goto (tgt := 31) d_Text_readLevel_77 (by decide) ?_
          have e9 := ly_len (w := 20000 + (hr (R 2) sz s).toNatClampNeg) (s := u2 (adv s))
          refine V.lc rfl (ih (i + 1) _ L3 (by omega) (by rw [ly_1]; exact g2) (by rw [ly_1]; omega) hR3 hQ)
        · skip
          exact absurd ((nI_leI (a := 0) (by decide) (by omega)).mpr (Nat.zero_le _)) c_48
      · skip
        rw [show lp (R 2) sz sg1 u2 (k + 1) s = s from if_neg (by show ¬ sg1 (hr (R 2) sz s) = true; exact Bool.eq_false_iff.mp hs)] at hQ
        refine V.istore d_Text_readLevel_44 (by decide) ?_
        refine V.iload d_Text_readLevel_46 rfl ?_
        refine V.if_ge (tgt := 54) d_Text_readLevel_48 (by decide) (fun c_48 => ?_) (fun c_48 => ?_)
        · skip
          exact absurd c_48 (by decide +kernel)
        · skip
          refine V.goto (tgt := 80) d_Text_readLevel_51 (by decide) ?_
          refine V.vret d_Text_readLevel_80 rfl (Nat.le_of_ble_eq_true rfl) (Nat.le_of_ble_eq_true rfl) ?_
          exact hQ L hR
set_option maxRecDepth 100000 in
theorem level_1 {l : Launch} {R W Z : Nat → Nat → Int32} {T : Nat → Nat → Nat} {kn : Kn} {h0 : HP} {u sz op : Nat} {u2 : PS → PS} {y : Nat} (hu : u < 2) (hsz : sz ≤ 50) (hz : Z 1 1 = nI sz) (hB : ∀ j, j < sz → ∃ c, c < 256 ∧ R 2 j = nI c) (gu : Gp sz u2) (hu2 : (∀ (n : Nat) (Q : QT) (s : PS) (L : List Nat), s.1 ≤ sz → s.2.2.length ≤ s.1 → RL s L → (∀ L2, RL (u2 s) L2 → Q none n (co (uA R (6 + 6 * u + 1) (wrt (R (6 + 6 * u + 1)) 0 (L2))) W (zT Z u (u2 s) (L2).length op) T kn h0)) → Ct l M_Text_readLevel (y + 5) 0 0 [.ref (3 + 6 * u), .int (nI 2)] n (co (uA R (6 + 6 * u + 1) (wrt (R (6 + 6 * u + 1)) 0 (L))) W (zT Z u (s) (L).length op) T kn h0) Q)) : ∀ (n : Nat) (Q : QT) (s : PS) (L : List Nat), s.1 ≤ sz → s.2.2.length ≤ s.1 → RL s L → (∀ L2, RL (lp (R 2) sz sg1 u2 50 (u2 s)) L2 → Q none n (co (uA R (6 + 6 * u + 1) (wrt (R (6 + 6 * u + 1)) 0 (L2))) W (zT Z u (lp (R 2) sz sg1 u2 50 (u2 s)) (L2).length op) T kn h0)) → Ct l M_Text_readLevel (y + 6) 0 0 [.ref (3 + 6 * u), .int (nI 1)] n (co (uA R (6 + 6 * u + 1) (wrt (R (6 + 6 * u + 1)) 0 (L))) W (zT Z u (s) (L).length op) T kn h0) Q := by
  intro n Q s L h1 h2 hR hQ
  obtain ⟨g1, g2, g3⟩ := gu s h1
  refine Ct.of (fun _ => trivial) (by decide) (Nat.le_of_ble_eq_true rfl) ?_
  refine V.iload_n d_Text_readLevel_0 rfl ?_
  refine V.iconst_ (nI 5) d_Text_readLevel_1 (by decide +kernel) ?_
  refine V.ltN (tgt := 10) d_Text_readLevel_2 (by decide) (by omega) (by omega) (fun c_2 => ?_) (fun c_2 => ?_)
  · skip
    refine V.aload_n d_Text_readLevel_10 rfl ?_
    refine V.iload_n d_Text_readLevel_11 rfl ?_
    refine V.iconst_ (nI 1) d_Text_readLevel_12 (by decide +kernel) ?_
    refine V.addN d_Text_readLevel_13 ?_
    refine V.callV1 d_Text_readLevel_14 k_Text_86_Text_readLevel_TextV (co_s (sc_tx (tx_ds u hu).1)) (Nat.le_of_ble_eq_true rfl) (by omega) (by omega) (hu2 _ _ s L h1 h2 hR (fun L2 hR2 => ?_))
    refine V.iload_n d_Text_readLevel_17 rfl ?_
    refine V.iconst_ (nI 2) d_Text_readLevel_18 (by decide +kernel) ?_
    refine V.neN (tgt := 26) d_Text_readLevel_19 (by decide) (by omega) (by omega) (fun c_19 => ?_) (fun c_19 => ?_)
    · skip
      refine V.bipush_ (nI 50) d_Text_readLevel_26 (by decide +kernel) ?_
      refine V.istore_n d_Text_readLevel_28 (by decide) ?_
      refine V.iconst_ (nI 0) d_Text_readLevel_29 (by decide +kernel) ?_
      refine V.istore_n d_Text_readLevel_30 (by decide) ?_
      exact V.lc rfl (lev1_loop hu hsz hz hB gu hu2 50 0 (u2 s) L2 (by omega) g2 (by omega) hR2 hQ)
    · skip
      exact absurd c_19 (by decide)
  · skip
    exact absurd c_2 (by decide)
set_option maxRecDepth 100000 in
theorem lev0_loop {l : Launch} {R W Z : Nat → Nat → Int32} {T : Nat → Nat → Nat} {kn : Kn} {h0 : HP} {u sz op : Nat} {u2 : PS → PS} {y n : Nat} {Q : QT} (hu : u < 2) (hsz : sz ≤ 50) (hz : Z 1 1 = nI sz) (hB : ∀ j, j < sz → ∃ c, c < 256 ∧ R 2 j = nI c) (gu : Gp sz u2) (hu2 : (∀ (n : Nat) (Q : QT) (s : PS) (L : List Nat), s.1 ≤ sz → s.2.2.length ≤ s.1 → RL s L → (∀ L2, RL (u2 s) L2 → Q none n (co (uA R (6 + 6 * u + 1) (wrt (R (6 + 6 * u + 1)) 0 (L2))) W (zT Z u (u2 s) (L2).length op) T kn h0)) → Ct l M_Text_readLevel (y + 5) 0 0 [.ref (3 + 6 * u), .int (nI 1)] n (co (uA R (6 + 6 * u + 1) (wrt (R (6 + 6 * u + 1)) 0 (L))) W (zT Z u (s) (L).length op) T kn h0) Q)) : ∀ (k i : Nat) (s : PS) (L : List Nat), i + k = 50 → s.1 ≤ sz → s.2.2.length ≤ s.1 → RL s L → (∀ L2, RL (lp (R 2) sz sg0 u2 k s) L2 → Q none n (co (uA R (6 + 6 * u + 1) (wrt (R (6 + 6 * u + 1)) 0 (L2))) W (zT Z u (lp (R 2) sz sg0 u2 k s) (L2).length op) T kn h0)) → V l M_Text_readLevel (y + 6) 0 0 31 [(0, .ref (3 + 6 * u)), (1, .int (nI 0)), (2, .int (nI 50)), (3, .int (nI i))] [] n (co (uA R (6 + 6 * u + 1) (wrt (R (6 + 6 * u + 1)) 0 (L))) W (zT Z u (s) (L).length op) T kn h0) 0 0 Q := by
  intro k
  induction k with
  | zero =>
    intro i s L hik h1 h2 hR hQ
    refine V.iload_n d_Text_readLevel_31 rfl ?_
    refine V.iload_n d_Text_readLevel_32 rfl ?_
    refine V.geN (tgt := 80) d_Text_readLevel_33 (by decide) (by omega) (by omega) (fun c_33 => ?_) (fun c_33 => ?_)
    · skip
      refine V.vret d_Text_readLevel_80 rfl (Nat.le_of_ble_eq_true rfl) (Nat.le_of_ble_eq_true rfl) ?_
      exact hQ L hR
    · skip
      exact absurd c_33 (by omega)
  | succ k ih =>
    intro i s L hik h1 h2 hR hQ
    refine V.iload_n d_Text_readLevel_31 rfl ?_
    refine V.iload_n d_Text_readLevel_32 rfl ?_
    refine V.geN (tgt := 80) d_Text_readLevel_33 (by decide) (by omega) (by omega) (fun c_33 => ?_) (fun c_33 => ?_)
    · skip
      exact absurd c_33 (by omega)
    · skip
      refine V.aload_n d_Text_readLevel_36 rfl ?_
      refine V.iload_n d_Text_readLevel_37 rfl ?_
      refine V.callS1 d_Text_readLevel_38 k_Text_108_Text_signsOfS (Nat.le_of_ble_eq_true rfl) (by omega) (by omega) (c_Text_signsOf (by decide) ?_)
      refine V.callV1 d_Text_readLevel_41 k_Text_112_Text_taken_TextV (co_s (sc_tx (tx_ds u hu).1)) (Nat.le_of_ble_eq_true rfl) (by omega) (by omega) (c_Text_taken (i := 4) (s := s) (by decide) (by decide) hu hsz hz hB h1 (fun hs => ?_) (fun hs => ?_))
      · skip
        have hsg : sg0 (hr (R 2) sz s) = true := hs
        obtain ⟨c, hc, ec, -, -⟩ := sg_nat (by first | exact Or.inl rfl | exact Or.inr (Or.inl rfl) | exact Or.inr (Or.inr (Or.inl rfl)) | exact Or.inr (Or.inr (Or.inr (Or.inl rfl))) | exact Or.inr (Or.inr (Or.inr (Or.inr rfl)))) hsg
        have hx := (hr_lt (by omega) ec).1
        have hxf := (hr_lt (by omega) ec).2
        obtain ⟨g1, g2, g3⟩ := gu (adv s) hx
        have ga : (adv s).1 = s.1 + 1 := rfl
        have gb : (adv s).2.2 = s.2.2 := rfl
        rw [ga] at g1 g3
        rw [gb] at g3
        have etn : (hr (R 2) sz s).toNatClampNeg < 200 := by rw [ec, icl (by omega)]; exact hc
        refine V.top (y := nI (hr (R 2) sz s).toNatClampNeg) (tn_nI (by omega) ec) ?_
        rw [show lp (R 2) sz sg0 u2 (k + 1) s = lp (R 2) sz sg0 u2 k (ly (20000 + (hr (R 2) sz s).toNatClampNeg) (u2 (adv s))) from if_pos hsg] at hQ
        refine V.istore d_Text_readLevel_44 (by decide) ?_
        refine V.iload d_Text_readLevel_46 rfl ?_
        refine V.if_ge (tgt := 54) d_Text_readLevel_48 (by decide) (fun c_48 => ?_) (fun c_48 => ?_)
        · skip
          refine V.aload_n d_Text_readLevel_54 rfl ?_
          refine V.iload_n d_Text_readLevel_55 rfl ?_
          refine V.iconst_ (nI 1) d_Text_readLevel_56 (by decide +kernel) ?_
          refine V.addN d_Text_readLevel_57 ?_
          refine V.callV1 d_Text_readLevel_58 k_Text_86_Text_readLevel_TextV (co_s (sc_tx (tx_ds u hu).1)) (Nat.le_of_ble_eq_true rfl) (by omega) (by omega) (hu2 _ _ (adv s) L hx (by show s.2.2.length ≤ s.1 + 1; omega) hR (fun L2 hR2 => ?_))
          refine V.aload_n d_Text_readLevel_61 rfl ?_
          refine V.get d_Text_readLevel_62 f_Text_20_Text (co_s (sc_tx (tx_ds u hu).1)) rfl ?_
          refine V.sipush_ (nI 20000) d_Text_readLevel_65 (by decide +kernel) ?_
          refine V.iload d_Text_readLevel_68 rfl ?_
          refine V.addN d_Text_readLevel_70 ?_
          refine V.callV1 d_Text_readLevel_71 k_Text_64_Row_add_RowV (co_s (sc_rw (tx_ds u hu).2.2.2.1)) (Nat.le_of_ble_eq_true rfl) (by omega) (by omega) (c_draft (v := 20000 + (hr (R 2) sz s).toNatClampNeg) (s := u2 (adv s)) hu hR2 (fun _ => by omega) (fun L3 hR3 => ?_))
          refine V.incN d_Text_readLevel_74 rfl (by decide) ?_
          refine V.goto (tgt := 31) d_Text_readLevel_77 (by decide) ?_
          have e9 := ly_len (w := 20000 + (hr (R 2) sz s).toNatClampNeg) (s := u2 (adv s))
          refine V.lc rfl (ih (i + 1) _ L3 (by omega) (by rw [ly_1]; exact g2) (by rw [ly_1]; omega) hR3 hQ)
        · skip
          exact absurd ((nI_leI (a := 0) (by decide) (by omega)).mpr (Nat.zero_le _)) c_48
      · skip
        rw [show lp (R 2) sz sg0 u2 (k + 1) s = s from if_neg (by show ¬ sg0 (hr (R 2) sz s) = true; exact Bool.eq_false_iff.mp hs)] at hQ
        refine V.istore d_Text_readLevel_44 (by decide) ?_
        refine V.iload d_Text_readLevel_46 rfl ?_
        refine V.if_ge (tgt := 54) d_Text_readLevel_48 (by decide) (fun c_48 => ?_) (fun c_48 => ?_)
        · skip
          exact absurd c_48 (by decide +kernel)
        · skip
          refine V.goto (tgt := 80) d_Text_readLevel_51 (by decide) ?_
          refine V.vret d_Text_readLevel_80 rfl (Nat.le_of_ble_eq_true rfl) (Nat.le_of_ble_eq_true rfl) ?_
          exact hQ L hR
set_option maxRecDepth 100000 in
theorem level_0 {l : Launch} {R W Z : Nat → Nat → Int32} {T : Nat → Nat → Nat} {kn : Kn} {h0 : HP} {u sz op : Nat} {u2 : PS → PS} {y : Nat} (hu : u < 2) (hsz : sz ≤ 50) (hz : Z 1 1 = nI sz) (hB : ∀ j, j < sz → ∃ c, c < 256 ∧ R 2 j = nI c) (gu : Gp sz u2) (hu2 : (∀ (n : Nat) (Q : QT) (s : PS) (L : List Nat), s.1 ≤ sz → s.2.2.length ≤ s.1 → RL s L → (∀ L2, RL (u2 s) L2 → Q none n (co (uA R (6 + 6 * u + 1) (wrt (R (6 + 6 * u + 1)) 0 (L2))) W (zT Z u (u2 s) (L2).length op) T kn h0)) → Ct l M_Text_readLevel (y + 5) 0 0 [.ref (3 + 6 * u), .int (nI 1)] n (co (uA R (6 + 6 * u + 1) (wrt (R (6 + 6 * u + 1)) 0 (L))) W (zT Z u (s) (L).length op) T kn h0) Q)) : ∀ (n : Nat) (Q : QT) (s : PS) (L : List Nat), s.1 ≤ sz → s.2.2.length ≤ s.1 → RL s L → (∀ L2, RL (lp (R 2) sz sg0 u2 50 (u2 s)) L2 → Q none n (co (uA R (6 + 6 * u + 1) (wrt (R (6 + 6 * u + 1)) 0 (L2))) W (zT Z u (lp (R 2) sz sg0 u2 50 (u2 s)) (L2).length op) T kn h0)) → Ct l M_Text_readLevel (y + 6) 0 0 [.ref (3 + 6 * u), .int (nI 0)] n (co (uA R (6 + 6 * u + 1) (wrt (R (6 + 6 * u + 1)) 0 (L))) W (zT Z u (s) (L).length op) T kn h0) Q := by
  intro n Q s L h1 h2 hR hQ
  obtain ⟨g1, g2, g3⟩ := gu s h1
  refine Ct.of (fun _ => trivial) (by decide) (Nat.le_of_ble_eq_true rfl) ?_
  refine V.iload_n d_Text_readLevel_0 rfl ?_
  refine V.iconst_ (nI 5) d_Text_readLevel_1 (by decide +kernel) ?_
  refine V.ltN (tgt := 10) d_Text_readLevel_2 (by decide) (by omega) (by omega) (fun c_2 => ?_) (fun c_2 => ?_)
  · skip
    refine V.aload_n d_Text_readLevel_10 rfl ?_
    refine V.iload_n d_Text_readLevel_11 rfl ?_
    refine V.iconst_ (nI 1) d_Text_readLevel_12 (by decide +kernel) ?_
    refine V.addN d_Text_readLevel_13 ?_
    refine V.callV1 d_Text_readLevel_14 k_Text_86_Text_readLevel_TextV (co_s (sc_tx (tx_ds u hu).1)) (Nat.le_of_ble_eq_true rfl) (by omega) (by omega) (hu2 _ _ s L h1 h2 hR (fun L2 hR2 => ?_))
    refine V.iload_n d_Text_readLevel_17 rfl ?_
    refine V.iconst_ (nI 2) d_Text_readLevel_18 (by decide +kernel) ?_
    refine V.neN (tgt := 26) d_Text_readLevel_19 (by decide) (by omega) (by omega) (fun c_19 => ?_) (fun c_19 => ?_)
    · skip
      refine V.bipush_ (nI 50) d_Text_readLevel_26 (by decide +kernel) ?_
      refine V.istore_n d_Text_readLevel_28 (by decide) ?_
      refine V.iconst_ (nI 0) d_Text_readLevel_29 (by decide +kernel) ?_
      refine V.istore_n d_Text_readLevel_30 (by decide) ?_
      exact V.lc rfl (lev0_loop hu hsz hz hB gu hu2 50 0 (u2 s) L2 (by omega) g2 (by omega) hR2 hQ)
    · skip
      exact absurd c_19 (by decide)
  · skip
    exact absurd c_2 (by decide)
theorem level_all {l : Launch} {R W Z : Nat → Nat → Int32} {T : Nat → Nat → Nat} {kn : Kn} {h0 : HP} {u sz op : Nat} {u2 : PS → PS} {y : Nat} (hu : u < 2) (hsz : sz ≤ 50) (hz : Z 1 1 = nI sz) (hB : ∀ j, j < sz → ∃ c, c < 256 ∧ R 2 j = nI c) (gu : Gp sz u2) (hu2 : (∀ (n : Nat) (Q : QT) (s : PS) (L : List Nat), s.1 ≤ sz → s.2.2.length ≤ s.1 → RL s L → (∀ L2, RL (u2 s) L2 → Q none n (co (uA R (6 + 6 * u + 1) (wrt (R (6 + 6 * u + 1)) 0 (L2))) W (zT Z u (u2 s) (L2).length op) T kn h0)) → Ct l M_Text_readPart (y + 5) 0 0 [.ref (3 + 6 * u)] n (co (uA R (6 + 6 * u + 1) (wrt (R (6 + 6 * u + 1)) 0 (L))) W (zT Z u (s) (L).length op) T kn h0) Q)) : ∀ (n : Nat) (Q : QT) (s : PS) (L : List Nat), s.1 ≤ sz → s.2.2.length ≤ s.1 → RL s L → (∀ L2, RL (eiP (R 2) sz u2 s) L2 → Q none n (co (uA R (6 + 6 * u + 1) (wrt (R (6 + 6 * u + 1)) 0 (L2))) W (zT Z u (eiP (R 2) sz u2 s) (L2).length op) T kn h0)) → Ct l M_Text_readLevel (y + 11) 0 0 [.ref (3 + 6 * u), .int (nI 0)] n (co (uA R (6 + 6 * u + 1) (wrt (R (6 + 6 * u + 1)) 0 (L))) W (zT Z u (s) (L).length op) T kn h0) Q := by
  have a5 := level_5 hu hu2
  have a4 := level_4 (y := y + 1) hu hsz hz hB gu a5
  have a3 := level_3 (y := y + 2) hu hsz hz hB (Gp.pr gu) a4
  have a2 := level_2 (y := y + 3) hu hsz hz hB (Gp.sm gu) a3
  have a1 := level_1 (y := y + 4) hu hsz hz hB (Gp.cm gu) a2
  exact level_0 (y := y + 5) hu hsz hz hB (Gp.bo gu) a1
theorem part_none {l : Launch} {R W Z : Nat → Nat → Int32} {T : Nat → Nat → Nat} {kn : Kn} {h0 : HP} {u sz : Nat} {x : Nat} (hu : u < 2) (hsz : sz ≤ 50) (hz : Z 1 1 = nI sz) (hB : ∀ j, j < sz → ∃ c, c < 256 ∧ R 2 j = nI c) (hx : 5 ≤ x) : ∀ (n : Nat) (Q : QT) (s : PS) (L : List Nat), s.1 ≤ sz → s.2.2.length ≤ s.1 → RL s L → (∀ L2, RL (unP (R 2) sz (decide (u = 1)) 0 s) L2 → Q none n (co (uA R (6 + 6 * u + 1) (wrt (R (6 + 6 * u + 1)) 0 (L2))) W (zT Z u (unP (R 2) sz (decide (u = 1)) 0 s) (L2).length 5) T kn h0)) → Ct l M_Text_readPart x 0 0 [.ref (3 + 6 * u)] n (co (uA R (6 + 6 * u + 1) (wrt (R (6 + 6 * u + 1)) 0 (L))) W (zT Z u (s) (L).length 5) T kn h0) Q := by
  obtain ⟨y, rfl⟩ : ∃ y, x = y + 5 := ⟨x - 5, by omega⟩
  intro n Q s L h1 h2 hR hQ
  exact c_Text_readPart (o := none) hu hsz hz hB h1 h2 hR (by decide) (fun z => absurd z (by decide)) (fun _ => rfl) hQ
theorem part_some {l : Launch} {R W Z : Nat → Nat → Int32} {T : Nat → Nat → Nat} {kn : Kn} {h0 : HP} {u sz op : Nat} {u2 : PS → PS} {dd : Nat} (hu : u < 2) (hsz : sz ≤ 50) (hz : Z 1 1 = nI sz) (hB : ∀ j, j < sz → ∃ c, c < 256 ∧ R 2 j = nI c) (hop : op < 5) (gu : Gp sz u2) (hd : 5 ≤ dd) (hu2 : ∀ x, dd ≤ x → (∀ (n : Nat) (Q : QT) (s : PS) (L : List Nat), s.1 ≤ sz → s.2.2.length ≤ s.1 → RL s L → (∀ L2, RL (u2 s) L2 → Q none n (co (uA R (6 + 6 * u + 1) (wrt (R (6 + 6 * u + 1)) 0 (L2))) W (zT Z u (u2 s) (L2).length (op + 1)) T kn h0)) → Ct l M_Text_readPart x 0 0 [.ref (3 + 6 * u)] n (co (uA R (6 + 6 * u + 1) (wrt (R (6 + 6 * u + 1)) 0 (L))) W (zT Z u (s) (L).length (op + 1)) T kn h0) Q)) : ∀ x, dd + 8 ≤ x → ∀ (n : Nat) (Q : QT) (s : PS) (L : List Nat), s.1 ≤ sz → s.2.2.length ≤ s.1 → RL s L → (∀ L2, RL (utP (R 2) sz (decide (u = 1)) (some u2) s) L2 → Q none n (co (uA R (6 + 6 * u + 1) (wrt (R (6 + 6 * u + 1)) 0 (L2))) W (zT Z u (utP (R 2) sz (decide (u = 1)) (some u2) s) (L2).length op) T kn h0)) → Ct l M_Text_readPart x 0 0 [.ref (3 + 6 * u)] n (co (uA R (6 + 6 * u + 1) (wrt (R (6 + 6 * u + 1)) 0 (L))) W (zT Z u (s) (L).length op) T kn h0) Q := by
  intro x hx
  obtain ⟨y, rfl⟩ : ∃ y, x = y + 13 := ⟨x - 13, by omega⟩
  intro n Q s L h1 h2 hR hQ
  have a0 := level_all (y := y) hu hsz hz hB gu (hu2 (y + 5) (by omega))
  refine c_Text_readPart (d := y + 8) (o := some u2) hu hsz hz hB h1 h2 hR (by omega) (fun _ c hc e Q hQ => ?_) (fun z => absurd hop z) hQ
  rcases hc with rfl | rfl
  · rw [show opP (R 2) sz (some u2) s = ly 20033 (u2 (adv s)) from if_pos e] at hQ
    exact c_Text_readOpen33 (y := y + 6) hu hsz hz hB gu (hu2 (y + 11) (by omega)) h1 h2 hR e hQ
  · rw [show opP (R 2) sz (some u2) s = clP (R 2) sz (eiP (R 2) sz u2 (adv s)) from if_neg (fun z => absurd (e.symm.trans z) (by decide +kernel))] at hQ
    exact c_Text_readOpen40 (y := y + 6) hu hsz hz hB (Gp.ei gu) a0 h1 h2 hR e hQ
theorem part_5 {l : Launch} {R W Z : Nat → Nat → Int32} {T : Nat → Nat → Nat} {kn : Kn} {h0 : HP} {u sz : Nat} (hu : u < 2) (hsz : sz ≤ 50) (hz : Z 1 1 = nI sz) (hB : ∀ j, j < sz → ∃ c, c < 256 ∧ R 2 j = nI c) : ∀ x, 45 ≤ x → ∀ (n : Nat) (Q : QT) (s : PS) (L : List Nat), s.1 ≤ sz → s.2.2.length ≤ s.1 → RL s L → (∀ L2, RL (unP (R 2) sz (decide (u = 1)) 5 s) L2 → Q none n (co (uA R (6 + 6 * u + 1) (wrt (R (6 + 6 * u + 1)) 0 (L2))) W (zT Z u (unP (R 2) sz (decide (u = 1)) 5 s) (L2).length 0) T kn h0)) → Ct l M_Text_readPart x 0 0 [.ref (3 + 6 * u)] n (co (uA R (6 + 6 * u + 1) (wrt (R (6 + 6 * u + 1)) 0 (L))) W (zT Z u (s) (L).length 0) T kn h0) Q := by
  have b0 := fun x (hx : 5 ≤ x) => part_none (l := l) (R := R) (W := W) (Z := Z) (T := T) (kn := kn) (h0 := h0) hu hsz hz hB hx
  have b1 := part_some (op := 4) hu hsz hz hB (by decide) (Gp.un 0) (by decide) b0
  have b2 := part_some (op := 3) (u2 := unP (R 2) sz (decide (u = 1)) 1) hu hsz hz hB (by decide) (Gp.un 1) (by decide) b1
  have b3 := part_some (op := 2) (u2 := unP (R 2) sz (decide (u = 1)) 2) hu hsz hz hB (by decide) (Gp.un 2) (by decide) b2
  have b4 := part_some (op := 1) (u2 := unP (R 2) sz (decide (u = 1)) 3) hu hsz hz hB (by decide) (Gp.un 3) (by decide) b3
  exact part_some (op := 0) (u2 := unP (R 2) sz (decide (u = 1)) 4) hu hsz hz hB (by decide) (Gp.un 4) (by decide) b4
theorem level_top {l : Launch} {R W Z : Nat → Nat → Int32} {T : Nat → Nat → Nat} {kn : Kn} {h0 : HP} {u sz : Nat} (hu : u < 2) (hsz : sz ≤ 50) (hz : Z 1 1 = nI sz) (hB : ∀ j, j < sz → ∃ c, c < 256 ∧ R 2 j = nI c) : ∀ x, 51 ≤ x → ∀ (n : Nat) (Q : QT) (s : PS) (L : List Nat), s.1 ≤ sz → s.2.2.length ≤ s.1 → RL s L → (∀ L2, RL (eiP (R 2) sz (unP (R 2) sz (decide (u = 1)) 5) s) L2 → Q none n (co (uA R (6 + 6 * u + 1) (wrt (R (6 + 6 * u + 1)) 0 (L2))) W (zT Z u (eiP (R 2) sz (unP (R 2) sz (decide (u = 1)) 5) s) (L2).length 0) T kn h0)) → Ct l M_Text_readLevel x 0 0 [.ref (3 + 6 * u), .int (nI 0)] n (co (uA R (6 + 6 * u + 1) (wrt (R (6 + 6 * u + 1)) 0 (L))) W (zT Z u (s) (L).length 0) T kn h0) Q := by
  intro x hx
  obtain ⟨y, rfl⟩ : ∃ y, x = y + 11 := ⟨x - 11, by omega⟩
  exact level_all (y := y) hu hsz hz hB (Gp.un 5) (part_5 hu hsz hz hB (y + 5) (by omega))
