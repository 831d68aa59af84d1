theorem t_imagine {mi si : Nat} {N dy len0 len1 : Nat} {Wc0 Wc1 : Nat → Nat} {l : Launch} {d n : Nat} {R W Z : Nat → Nat → Int32} {T : Nat → Nat → Nat} {kn : Kn} {h0 : HP} {Q : QT} (hI : CI R W Z T kn n N dy Wc0 len0 Wc1 len1) (hh0 : ∀ a, ¬ (88 ≤ a ∧ a < 104) → h0 a = none) (he : (8 ≤ mi ∧ 64 ≤ si) ∨ AL W) (hQ : ∀ (R1 W1 Z1 : Nat → Nat → Int32) (T1 : Nat → Nat → Nat) (n1 : Nat), JF R W Z R1 W1 Z1 → CI R1 W1 Z1 T1 kn n1 N dy Wc0 len0 Wc1 len1 → n ≤ n1 → W1 1 = cpW (W 1) (W 0) → (∀ j, j < 16 → R1 38 j = nI 0) → Z1 36 1 = nI 0 → PR R1 Z1 1 (imP (W 0) N).length (fun i => (imP (W 0) N).getD i 0) → AL W1 → (∀ u i, u ≠ 1 → T1 u i = T u i) → Q none n1 (co R1 W1 Z1 T1 kn h0)) : Ct l M_World_imagine (d + 6) mi si [.ref 32, .ref 15] n (co R W Z T kn h0) Q := by
  obtain ⟨h1, h2, h3, h4, h5, h6, h7, h8, h9, h10⟩ := id hI
  have w1 : wb 1 = 32 := rfl
  refine c_World_imagine (w := 1) (v := 0) (N := N) (by decide) (by decide) (by decide) h9 h6 h5 hh0 he h1 h2 (fun R1 Z1 T1 n1 hT1 hn hU hR hZ h16 hz hp => ?_)
  have hj : JF R W Z R1 (uW W 1 (cpW (W 1) (W 0))) Z1 := ⟨fun a q1 q2 q3 => hR a (by omega) (by omega), fun b j q1 q2 => hZ b j (by omega) (by omega), fun v hv => uW_n hv⟩
  exact hQ R1 _ Z1 T1 n1 hj (hI.go hj (by rw [uW_s]; exact h6.cp h5) hT1 h10) hn uW_s h16 hz hp (fun i hi => by rw [uW_s, uW_n (by decide)]; exact if_pos (by omega)) hU
theorem t_pass {nn np d1 B : Nat} {ps : Nat → Nat} {x : Int32} {N dy len0 len1 : Nat} {Wc0 Wc1 : Nat → Nat} {l : Launch} {d n : Nat} {R W Z : Nat → Nat → Int32} {T : Nat → Nat → Nat} {kn : Kn} {h0 : HP} {Q : QT} (hI : CI R W Z T kn n N dy Wc0 len0 Wc1 len1) (e10 : W 1 0 = nI N) (ed : W 1 1 = nI d1) (hd1 : d1 ≤ 20000) (hp : PR R Z 1 np ps) (hz : Z 36 1 = nI 0) (hal : AL W) (hBu : 0 < nn → ¬ (stS (W 1) true N &&& x) = 0 → bue len0 np kn ≤ B) (hnn : nn ≤ 1000) (hQ : ∀ (m : Nat) (R1 W1 Z1 : Nat → Nat → Int32) (kn1 : Kn) (n1 : Nat), m ≤ nn → (m = nn ∨ (stS (dsG (cvc Wc0 len0) (wvc Wc1 len1) N ps np (W 1) m).1 true N &&& x) = 0) → (∀ j, j < m → ¬ (stS (dsG (cvc Wc0 len0) (wvc Wc1 len1) N ps np (W 1) j).1 true N &&& x) = 0) → JF R W Z R1 W1 Z1 → CI R1 W1 Z1 T kn1 n1 N dy Wc0 len0 Wc1 len1 → n ≤ n1 → W1 1 = (dsG (cvc Wc0 len0) (wvc Wc1 len1) N ps np (W 1) m).1 → R1 37 = wrl (R 37) 0 (dsG (cvc Wc0 len0) (wvc Wc1 len1) N ps np (W 1) m).2 → Z1 36 1 = nI (dsG (cvc Wc0 len0) (wvc Wc1 len1) N ps np (W 1) m).2.length → R1 38 = dsH (cvc Wc0 len0) (wvc Wc1 len1) N ps np (W 1) (R 38) m → AL W1 → (((0 < nn ∧ ¬ (stS (W 1) true N &&& x) = 0) → bue len0 np kn1 = 0) ∧ (¬ (0 < nn ∧ ¬ (stS (W 1) true N &&& x) = 0) → kn1 = kn)) → PR R1 Z1 1 np ps → Q none n1 (co R1 W1 Z1 T kn1 h0)) : Ct l M_World_passUntilDown (d + 12) B (13300 * B) [.ref 32, .int x, .int (nI nn)] n (co R W Z T kn h0) Q := by
  obtain ⟨h1, h2, h3, h4, h5, h6, h7, h8, h9, h10⟩ := id hI
  have hps : ∀ i, i < np → ps i < 36 := fun i hi => (hp.2.2 i hi).1
  refine c_World_passUntilDown (w := 1) (by decide) h1 e10 h7 h8 hp h9 h10 hBu h6 ed (by omega) hz (by have := cst_le (D := W 1) N; omega) hnn (fun m R1 W1 Z1 kn1 n1 hm hs ha hF hW hr5 hz4 hr6 hT1 hK1 hb1 hn1 => ?_)
  have hj := hF.jf
  obtain ⟨g1, -, -, -⟩ := dsG_i (cv := cvc Wc0 len0) (wv := wvc Wc1 len1) (N := N) (ps := ps) (np := np) h1 h6 hps m
  refine hQ m R1 W1 Z1 kn1 n1 hm hs ha hj (hI.go hj (by rw [hW]; exact g1) hT1 hK1) hn1 hW hr5 ?_ hr6 (fun i hi => ?_) ⟨fun z => hb1.1 (Nat.pos_of_ne_zero (fun q => ?_)), fun z => hb1.2 ?_⟩ (hF.pr hp)
  · have := hz4
    rw [Nat.zero_add] at this
    exact this
  · rw [hW, dsG_tree hps (by omega) (by omega), hj.2.2 0 (by decide)]
    exact hal i hi
  · subst q
    rcases hs with e | e
    · omega
    · exact z.2 e
  · refine Decidable.byContradiction (fun q => z ⟨by omega, ha 0 (by omega)⟩)
abbrev M_F_down : MD := (⟨"FelledByNames", "down", "(I)I"⟩, prog_1_method_19_code, 2, (some .int), fun _ => True)
theorem d_F_down_0 : decode prog_1_method_19_code 0 = .ok (.iload_n 1, 1) := by decide +kernel
theorem d_F_down_1 : decode prog_1_method_19_code 1 = .ok (.bipush 60, 2) := by decide +kernel
theorem d_F_down_3 : decode prog_1_method_19_code 3 = .ok (.invokestatic 94, 3) := by decide +kernel
theorem d_F_down_6 : decode prog_1_method_19_code 6 = .ok (.ifCond .ne 9, 3) := by decide +kernel
theorem d_F_down_15 : decode prog_1_method_19_code 15 = .ok (.aload_n 0, 1) := by decide +kernel
theorem d_F_down_16 : decode prog_1_method_19_code 16 = .ok (.getfield 43, 3) := by decide +kernel
theorem f_F_43_F : fok "FelledByNames" 43 0 4 := ⟨R_F, F_F, 15, "FelledByNames", rfl, i_F, by decide, tm 428 (by decide +kernel) rfl, Or.inl rfl, t_F, t_F_ok, n_F⟩
theorem d_F_down_19 : decode prog_1_method_19_code 19 = .ok (.aload_n 0, 1) := by decide +kernel
theorem d_F_down_20 : decode prog_1_method_19_code 20 = .ok (.getfield 39, 3) := by decide +kernel
theorem d_F_down_23 : decode prog_1_method_19_code 23 = .ok (.invokevirtual 212, 3) := by decide +kernel
theorem kB_World_imagine : kB M_World_imagine 1 := ⟨tm 5 (by decide +kernel) rfl, tm 781 (by decide +kernel) rfl, ⟨by decide, by decide, by decide +kernel⟩, by decide⟩
theorem k_F_212_World_imagine_WorldV : kV "FelledByNames" 212 4 M_World_imagine 1 := ⟨kB_World_imagine, tm 778 (by decide +kernel) rfl, tm 779 (by decide +kernel) rfl, tm 780 (by decide +kernel) rfl, _, rfl, rfl⟩
theorem d_F_down_26 : decode prog_1_method_19_code 26 = .ok (.aload_n 0, 1) := by decide +kernel
theorem d_F_down_27 : decode prog_1_method_19_code 27 = .ok (.getfield 43, 3) := by decide +kernel
theorem d_F_down_30 : decode prog_1_method_19_code 30 = .ok (.sipush 255, 3) := by decide +kernel
theorem d_F_down_33 : decode prog_1_method_19_code 33 = .ok (.iload_n 1, 1) := by decide +kernel
theorem d_F_down_34 : decode prog_1_method_19_code 34 = .ok (.invokevirtual 216, 3) := by decide +kernel
theorem kB_World_passUntilDown : kB M_World_passUntilDown 2 := ⟨tm 5 (by decide +kernel) rfl, tm 796 (by decide +kernel) rfl, ⟨by decide, by decide, by decide +kernel⟩, by decide⟩
theorem k_F_216_World_passUntilDown_WorldV : kV "FelledByNames" 216 4 M_World_passUntilDown 2 := ⟨kB_World_passUntilDown, tm 793 (by decide +kernel) rfl, tm 794 (by decide +kernel) rfl, tm 795 (by decide +kernel) rfl, _, rfl, rfl⟩
theorem d_F_down_37 : decode prog_1_method_19_code 37 = .ok (.aload_n 0, 1) := by decide +kernel
theorem d_F_down_38 : decode prog_1_method_19_code 38 = .ok (.getfield 43, 3) := by decide +kernel
theorem d_F_down_41 : decode prog_1_method_19_code 41 = .ok (.iconst 0, 1) := by decide +kernel
theorem d_F_down_42 : decode prog_1_method_19_code 42 = .ok (.invokevirtual 220, 3) := by decide +kernel
theorem d_F_down_45 : decode prog_1_method_19_code 45 = .ok (.ireturn, 1) := by decide +kernel
theorem d_F_down_9 : decode prog_1_method_19_code 9 = .ok (.aload_n 0, 1) := by decide +kernel
theorem d_F_down_10 : decode prog_1_method_19_code 10 = .ok (.iconst 1, 1) := by decide +kernel
theorem d_F_down_11 : decode prog_1_method_19_code 11 = .ok (.invokevirtual 97, 3) := by decide +kernel
theorem d_F_down_14 : decode prog_1_method_19_code 14 = .ok (.ireturn, 1) := by decide +kernel
set_option maxRecDepth 100000 in
theorem c_F_down {N dy len0 len1 : Nat} {Wc0 Wc1 : Nat → Nat} {x : Int32} {l : Launch} {d n : Nat} {R W Z : Nat → Nat → Int32} {T : Nat → Nat → Nat} {kn : Kn} {h0 : HP} {Q : QT} (hI : CI R W Z T kn n N dy Wc0 len0 Wc1 len1) (hh0 : ∀ a, ¬ (88 ≤ a ∧ a < 104) → h0 a = none) (hE : wi x (nI 0) (nI 60) = false → Q (some (.int (-1000000000 - nI 1))) n (co (uA R 54 (upd (R 54) 1 (R 54 1 + nI 1))) W Z T kn h0)) (hOk : ∀ k, k ≤ 60 → x = nI k → ∀ (R1 W1 Z1 : Nat → Nat → Int32) (T1 : Nat → Nat → Nat) (kn1 : Kn) (n1 : Nat), JF R W Z R1 W1 Z1 → CI R1 W1 Z1 T1 kn1 n1 N dy Wc0 len0 Wc1 len1 → Q (some (.int (stS (dsG (cvc Wc0 len0) (wvc Wc1 len1) N (fun i => (imP (W 0) N).getD i 0) (imP (W 0) N).length (cpW (W 1) (W 0)) k).1 false N))) n1 (co R1 W1 Z1 T1 kn1 h0)) : Ct l M_F_down (d + 13) 9 13364 [.ref 0, .int x] n (co R W Z T kn h0) Q := by
  refine Ct.of (fun _ => trivial) (by decide) (Nat.le_of_ble_eq_true rfl) ?_
  obtain ⟨hN, e0, hdy, hd9, hB0, hB1, hx0, hx1, hT, hK⟩ := id hI
  have hpl : ∀ i, i < (imP (W 0) N).length → (fun i => (imP (W 0) N).getD i 0) i < 36 := fun i hi => by
    refine imP_lt hB0 N hN _ ?_
    show (imP (W 0) N).getD i 0 ∈ _
    rw [List.getD_eq_getElem?_getD, List.getElem?_eq_getElem hi]
    exact List.getElem_mem hi
  refine V.iload_n d_F_down_0 rfl ?_
  refine V.bipush_ (nI 60) d_F_down_1 (by decide +kernel) ?_
  refine V.callS2 d_F_down_3 k_F_94_F_withinS (Nat.le_of_ble_eq_true rfl) (by omega) (by omega) (c_F_within ?_)
  refine V.ifneB (tgt := 15) d_F_down_6 (by decide) (fun c_6 => ?_) (fun c_6 => ?_)
  · skip
    obtain ⟨k, hk, rfl⟩ := wi_nat (k := 60) (by decide) c_6
    refine V.aload_n d_F_down_15 rfl ?_
    refine V.get d_F_down_16 f_F_43_F (co_s sc_ob) rfl ?_
    refine V.aload_n d_F_down_19 rfl ?_
    refine V.get d_F_down_20 f_F_39_F (co_s sc_ob) rfl ?_
    refine V.callV1 d_F_down_23 k_F_212_World_imagine_WorldV (co_s (sc_wd (wb_ds 1 (by decide)).1)) (Nat.le_of_ble_eq_true rfl) (by omega) (by omega) (t_imagine (mi := 8) (si := 64) hI hh0 (Or.inl ⟨Nat.le_refl _, Nat.le_refl _⟩) (fun Ra Wa Za Ta na hJa hIa hna hWa hHa hZa hPa hAa hUa => ?_))
    have e1a : Wa 1 0 = nI N := by rw [hWa]; exact e0
    have eda : Wa 1 1 = nI dy := by rw [hWa]; exact hdy
    refine V.aload_n d_F_down_26 rfl ?_
    refine V.get d_F_down_27 f_F_43_F (co_s sc_ob) rfl ?_
    refine V.sipush_ (nI 255) d_F_down_30 (by decide +kernel) ?_
    refine V.iload_n d_F_down_33 rfl ?_
    refine V.callV2 d_F_down_34 k_F_216_World_passUntilDown_WorldV (co_s (sc_wd (wb_ds 1 (by decide)).1)) (Nat.le_of_ble_eq_true rfl) (by omega) (by omega) (t_pass (nn := k) (B := 1) hIa e1a eda (by omega) hPa hZa hAa (fun _ _ => bue_le) (by omega) (fun m Rb Wb Zb knb nb hmb hsb hab hJb hIb hnb hWb hrb hzb hhb hAb hbb hPb => ?_))
    rw [hWa] at hsb hab hWb hrb hzb hhb
    obtain ⟨q1, q2, q3⟩ := pud_255 (cv := cvc Wc0 len0) (wv := wvc Wc1 len1) (D := cpW (W 1) (W 0)) hN hpl hmb hsb (fun _ => 0)
    obtain ⟨-, e0b, -, -, -, hB1b, -, -, hTb, -⟩ := id hIb
    have e1b : Wb 1 0 = nI N := by rw [hWb, ← q2 0 (by omega) (by omega), (dsG_i hN (hB1.cp hB0) hpl k).2.1]; exact e0
    refine V.aload_n d_F_down_37 rfl ?_
    refine V.get d_F_down_38 f_F_43_F (co_s sc_ob) rfl ?_
    refine V.iconst_ (nI 0) d_F_down_41 (by decide +kernel) ?_
    refine V.callV1 d_F_down_42 k_F_220_World_setOfTrees_WorldV (co_s (sc_wd (wb_ds 1 (by decide)).1)) (Nat.le_of_ble_eq_true rfl) (by omega) (by omega) (c_World_setOfTrees (w := 1) (b := false) (by decide) hTb hB1b hN e1b ?_)
    refine V.iret d_F_down_45 rfl (by omega) (by omega) ?_
    rw [hWb, ← stS_c N (fun i _ => q2 (50 + 7 * i + 6) (by omega) (by omega))]
    exact hOk k hk rfl Rb Wb Zb Ta knb nb (hJa.tr hJb) hIb
  · skip
    refine V.aload_n d_F_down_9 rfl ?_
    refine V.iconst_ (nI 1) d_F_down_10 (by decide +kernel) ?_
    refine V.callV1 d_F_down_11 k_F_97_F_error_FV (co_s sc_ob) (Nat.le_of_ble_eq_true rfl) (by omega) (by omega) (c_F_error (by decide) ?_)
    refine V.iret d_F_down_14 rfl (by omega) (by omega) ?_
    exact hE c_6
abbrev M_F_timber : MD := (⟨"FelledByNames", "timber", "(I)I"⟩, prog_1_method_26_code, 2, (some .int), fun _ => True)
theorem d_F_timber_0 : decode prog_1_method_26_code 0 = .ok (.iload_n 1, 1) := by decide +kernel
theorem d_F_timber_1 : decode prog_1_method_26_code 1 = .ok (.bipush 60, 2) := by decide +kernel
theorem d_F_timber_3 : decode prog_1_method_26_code 3 = .ok (.invokestatic 94, 3) := by decide +kernel
theorem d_F_timber_6 : decode prog_1_method_26_code 6 = .ok (.ifCond .ne 9, 3) := by decide +kernel
theorem d_F_timber_15 : decode prog_1_method_26_code 15 = .ok (.aload_n 0, 1) := by decide +kernel
theorem d_F_timber_16 : decode prog_1_method_26_code 16 = .ok (.getfield 43, 3) := by decide +kernel
theorem d_F_timber_19 : decode prog_1_method_26_code 19 = .ok (.aload_n 0, 1) := by decide +kernel
theorem d_F_timber_20 : decode prog_1_method_26_code 20 = .ok (.getfield 39, 3) := by decide +kernel
theorem d_F_timber_23 : decode prog_1_method_26_code 23 = .ok (.invokevirtual 212, 3) := by decide +kernel
theorem d_F_timber_26 : decode prog_1_method_26_code 26 = .ok (.aload_n 0, 1) := by decide +kernel
theorem d_F_timber_27 : decode prog_1_method_26_code 27 = .ok (.getfield 43, 3) := by decide +kernel
theorem d_F_timber_30 : decode prog_1_method_26_code 30 = .ok (.sipush 255, 3) := by decide +kernel
theorem d_F_timber_33 : decode prog_1_method_26_code 33 = .ok (.iload_n 1, 1) := by decide +kernel
theorem d_F_timber_34 : decode prog_1_method_26_code 34 = .ok (.invokevirtual 216, 3) := by decide +kernel
theorem d_F_timber_37 : decode prog_1_method_26_code 37 = .ok (.aload_n 0, 1) := by decide +kernel
theorem d_F_timber_38 : decode prog_1_method_26_code 38 = .ok (.getfield 43, 3) := by decide +kernel
theorem d_F_timber_41 : decode prog_1_method_26_code 41 = .ok (.getfield 118, 3) := by decide +kernel
theorem d_F_timber_44 : decode prog_1_method_26_code 44 = .ok (.aload_n 0, 1) := by decide +kernel
theorem d_F_timber_45 : decode prog_1_method_26_code 45 = .ok (.getfield 39, 3) := by decide +kernel
theorem d_F_timber_48 : decode prog_1_method_26_code 48 = .ok (.getfield 118, 3) := by decide +kernel
theorem d_F_timber_51 : decode prog_1_method_26_code 51 = .ok (.isub, 1) := by decide +kernel
theorem d_F_timber_52 : decode prog_1_method_26_code 52 = .ok (.ireturn, 1) := by decide +kernel
theorem d_F_timber_9 : decode prog_1_method_26_code 9 = .ok (.aload_n 0, 1) := by decide +kernel
theorem d_F_timber_10 : decode prog_1_method_26_code 10 = .ok (.iconst 1, 1) := by decide +kernel
theorem d_F_timber_11 : decode prog_1_method_26_code 11 = .ok (.invokevirtual 97, 3) := by decide +kernel
theorem d_F_timber_14 : decode prog_1_method_26_code 14 = .ok (.ireturn, 1) := by decide +kernel
set_option maxRecDepth 100000 in
theorem c_F_timber {N dy len0 len1 : Nat} {Wc0 Wc1 : Nat → Nat} {x : Int32} {l : Launch} {d n : Nat} {R W Z : Nat → Nat → Int32} {T : Nat → Nat → Nat} {kn : Kn} {h0 : HP} {Q : QT} (hI : CI R W Z T kn n N dy Wc0 len0 Wc1 len1) (hh0 : ∀ a, ¬ (88 ≤ a ∧ a < 104) → h0 a = none) (hE : wi x (nI 0) (nI 60) = false → Q (some (.int (-1000000000 - nI 1))) n (co (uA R 54 (upd (R 54) 1 (R 54 1 + nI 1))) W Z T kn h0)) (hOk : ∀ k, k ≤ 60 → x = nI k → ∀ (R1 W1 Z1 : Nat → Nat → Int32) (T1 : Nat → Nat → Nat) (kn1 : Kn) (n1 : Nat), JF R W Z R1 W1 Z1 → CI R1 W1 Z1 T1 kn1 n1 N dy Wc0 len0 Wc1 len1 → Q (some (.int ((dsG (cvc Wc0 len0) (wvc Wc1 len1) N (fun i => (imP (W 0) N).getD i 0) (imP (W 0) N).length (cpW (W 1) (W 0)) k).1 4 - W 0 4))) n1 (co R1 W1 Z1 T1 kn1 h0)) : Ct l M_F_timber (d + 13) 9 13364 [.ref 0, .int x] n (co R W Z T kn h0) Q := by
  refine Ct.of (fun _ => trivial) (by decide) (Nat.le_of_ble_eq_true rfl) ?_
  obtain ⟨hN, e0, hdy, hd9, hB0, hB1, hx0, hx1, hT, hK⟩ := id hI
  have hpl : ∀ i, i < (imP (W 0) N).length → (fun i => (imP (W 0) N).getD i 0) i < 36 := fun i hi => by
    refine imP_lt hB0 N hN _ ?_
    show (imP (W 0) N).getD i 0 ∈ _
    rw [List.getD_eq_getElem?_getD, List.getElem?_eq_getElem hi]
    exact List.getElem_mem hi
  refine V.iload_n d_F_timber_0 rfl ?_
  refine V.bipush_ (nI 60) d_F_timber_1 (by decide +kernel) ?_
  refine V.callS2 d_F_timber_3 k_F_94_F_withinS (Nat.le_of_ble_eq_true rfl) (by omega) (by omega) (c_F_within ?_)
  refine V.ifneB (tgt := 15) d_F_timber_6 (by decide) (fun c_6 => ?_) (fun c_6 => ?_)
  · skip
    obtain ⟨k, hk, rfl⟩ := wi_nat (k := 60) (by decide) c_6
    refine V.aload_n d_F_timber_15 rfl ?_
    refine V.get d_F_timber_16 f_F_43_F (co_s sc_ob) rfl ?_
    refine V.aload_n d_F_timber_19 rfl ?_
    refine V.get d_F_timber_20 f_F_39_F (co_s sc_ob) rfl ?_
    refine V.callV1 d_F_timber_23 k_F_212_World_imagine_WorldV (co_s (sc_wd (wb_ds 1 (by decide)).1)) (Nat.le_of_ble_eq_true rfl) (by omega) (by omega) (t_imagine (mi := 8) (si := 64) hI hh0 (Or.inl ⟨Nat.le_refl _, Nat.le_refl _⟩) (fun Ra Wa Za Ta na hJa hIa hna hWa hHa hZa hPa hAa hUa => ?_))
    have e1a : Wa 1 0 = nI N := by rw [hWa]; exact e0
    have eda : Wa 1 1 = nI dy := by rw [hWa]; exact hdy
    refine V.aload_n d_F_timber_26 rfl ?_
    refine V.get d_F_timber_27 f_F_43_F (co_s sc_ob) rfl ?_
    refine V.sipush_ (nI 255) d_F_timber_30 (by decide +kernel) ?_
    refine V.iload_n d_F_timber_33 rfl ?_
    refine V.callV2 d_F_timber_34 k_F_216_World_passUntilDown_WorldV (co_s (sc_wd (wb_ds 1 (by decide)).1)) (Nat.le_of_ble_eq_true rfl) (by omega) (by omega) (t_pass (nn := k) (B := 1) hIa e1a eda (by omega) hPa hZa hAa (fun _ _ => bue_le) (by omega) (fun m Rb Wb Zb knb nb hmb hsb hab hJb hIb hnb hWb hrb hzb hhb hAb hbb hPb => ?_))
    rw [hWa] at hsb hab hWb hrb hzb hhb
    obtain ⟨q1, q2, q3⟩ := pud_255 (cv := cvc Wc0 len0) (wv := wvc Wc1 len1) (D := cpW (W 1) (W 0)) hN hpl hmb hsb (fun _ => 0)
    obtain ⟨-, e0b, -, -, -, hB1b, -, -, hTb, -⟩ := id hIb
    refine V.aload_n d_F_timber_37 rfl ?_
    refine V.get d_F_timber_38 f_F_43_F (co_s sc_ob) rfl ?_
    refine V.get d_F_timber_41 f_F_118_World (co_s (sc_wd (wb_ds 1 (by decide)).1)) rfl ?_
    refine V.top (y := (dsG (cvc Wc0 len0) (wvc Wc1 len1) N (fun i => (imP (W 0) N).getD i 0) (imP (W 0) N).length (cpW (W 1) (W 0)) k).1 4) (by rw [hWb, q2 4 (by omega) (by omega)]) ?_
    refine V.aload_n d_F_timber_44 rfl ?_
    refine V.get d_F_timber_45 f_F_39_F (co_s sc_ob) rfl ?_
    refine V.get d_F_timber_48 f_F_118_World (co_s (sc_wd (wb_ds 0 (by decide)).1)) rfl ?_
    refine V.top (y := W 0 4) (by rw [(hJa.tr hJb).2.2 0 (by decide)]) ?_
    refine V.isub d_F_timber_51 ?_
    refine V.iret d_F_timber_52 rfl (by omega) (by omega) ?_
    exact hOk k hk rfl Rb Wb Zb Ta knb nb (hJa.tr hJb) hIb
  · skip
    refine V.aload_n d_F_timber_9 rfl ?_
    refine V.iconst_ (nI 1) d_F_timber_10 (by decide +kernel) ?_
    refine V.callV1 d_F_timber_11 k_F_97_F_error_FV (co_s sc_ob) (Nat.le_of_ble_eq_true rfl) (by omega) (by omega) (c_F_error (by decide) ?_)
    refine V.iret d_F_timber_14 rfl (by omega) (by omega) ?_
    exact hE c_6
abbrev M_F_when : MD := (⟨"FelledByNames", "when", "(I)I"⟩, prog_1_method_18_code, 2, (some .int), fun _ => True)
theorem d_F_when_0 : decode prog_1_method_18_code 0 = .ok (.aload_n 0, 1) := by decide +kernel
theorem d_F_when_1 : decode prog_1_method_18_code 1 = .ok (.iload_n 1, 1) := by decide +kernel
theorem d_F_when_2 : decode prog_1_method_18_code 2 = .ok (.invokevirtual 152, 3) := by decide +kernel
theorem d_F_when_5 : decode prog_1_method_18_code 5 = .ok (.ifCond .ne 9, 3) := by decide +kernel
theorem d_F_when_14 : decode prog_1_method_18_code 14 = .ok (.aload_n 0, 1) := by decide +kernel
theorem d_F_when_15 : decode prog_1_method_18_code 15 = .ok (.getfield 43, 3) := by decide +kernel
theorem d_F_when_18 : decode prog_1_method_18_code 18 = .ok (.aload_n 0, 1) := by decide +kernel
theorem d_F_when_19 : decode prog_1_method_18_code 19 = .ok (.getfield 39, 3) := by decide +kernel
theorem d_F_when_22 : decode prog_1_method_18_code 22 = .ok (.invokevirtual 212, 3) := by decide +kernel
theorem d_F_when_25 : decode prog_1_method_18_code 25 = .ok (.aload_n 0, 1) := by decide +kernel
theorem d_F_when_26 : decode prog_1_method_18_code 26 = .ok (.getfield 43, 3) := by decide +kernel
theorem d_F_when_29 : decode prog_1_method_18_code 29 = .ok (.iconst 1, 1) := by decide +kernel
theorem d_F_when_30 : decode prog_1_method_18_code 30 = .ok (.iload_n 1, 1) := by decide +kernel
theorem d_F_when_31 : decode prog_1_method_18_code 31 = .ok (.ishl, 1) := by decide +kernel
theorem d_F_when_32 : decode prog_1_method_18_code 32 = .ok (.bipush 60, 2) := by decide +kernel
theorem d_F_when_34 : decode prog_1_method_18_code 34 = .ok (.invokevirtual 216, 3) := by decide +kernel
theorem d_F_when_37 : decode prog_1_method_18_code 37 = .ok (.aload_n 0, 1) := by decide +kernel
theorem d_F_when_38 : decode prog_1_method_18_code 38 = .ok (.getfield 43, 3) := by decide +kernel
theorem d_F_when_41 : decode prog_1_method_18_code 41 = .ok (.getfield 145, 3) := by decide +kernel
theorem d_F_when_44 : decode prog_1_method_18_code 44 = .ok (.iload_n 1, 1) := by decide +kernel
theorem d_F_when_45 : decode prog_1_method_18_code 45 = .ok (.aaload, 1) := by decide +kernel
theorem d_F_when_46 : decode prog_1_method_18_code 46 = .ok (.getfield 159, 3) := by decide +kernel
theorem d_F_when_49 : decode prog_1_method_18_code 49 = .ok (.ifCond .eq 11, 3) := by decide +kernel
theorem d_F_when_60 : decode prog_1_method_18_code 60 = .ok (.aload_n 0, 1) := by decide +kernel
theorem d_F_when_61 : decode prog_1_method_18_code 61 = .ok (.getfield 43, 3) := by decide +kernel
theorem d_F_when_64 : decode prog_1_method_18_code 64 = .ok (.getfield 163, 3) := by decide +kernel
theorem d_F_when_67 : decode prog_1_method_18_code 67 = .ok (.aload_n 0, 1) := by decide +kernel
theorem d_F_when_68 : decode prog_1_method_18_code 68 = .ok (.getfield 39, 3) := by decide +kernel
theorem d_F_when_71 : decode prog_1_method_18_code 71 = .ok (.getfield 163, 3) := by decide +kernel
theorem d_F_when_74 : decode prog_1_method_18_code 74 = .ok (.isub, 1) := by decide +kernel
theorem d_F_when_75 : decode prog_1_method_18_code 75 = .ok (.ireturn, 1) := by decide +kernel
theorem d_F_when_52 : decode prog_1_method_18_code 52 = .ok (.aload_n 0, 1) := by decide +kernel
theorem d_F_when_53 : decode prog_1_method_18_code 53 = .ok (.iconst 2, 1) := by decide +kernel
theorem d_F_when_54 : decode prog_1_method_18_code 54 = .ok (.invokevirtual 97, 3) := by decide +kernel
theorem d_F_when_57 : decode prog_1_method_18_code 57 = .ok (.goto 18, 3) := by decide +kernel
theorem d_F_when_8 : decode prog_1_method_18_code 8 = .ok (.aload_n 0, 1) := by decide +kernel
theorem d_F_when_9 : decode prog_1_method_18_code 9 = .ok (.iconst 1, 1) := by decide +kernel
theorem d_F_when_10 : decode prog_1_method_18_code 10 = .ok (.invokevirtual 97, 3) := by decide +kernel
theorem d_F_when_13 : decode prog_1_method_18_code 13 = .ok (.ireturn, 1) := by decide +kernel
set_option maxRecDepth 100000 in
theorem c_F_when {N dy len0 len1 : Nat} {Wc0 Wc1 : Nat → Nat} {x : Int32} {l : Launch} {d n : Nat} {R W Z : Nat → Nat → Int32} {T : Nat → Nat → Nat} {kn : Kn} {h0 : HP} {Q : QT} (hI : CI R W Z T kn n N dy Wc0 len0 Wc1 len1) (hh0 : ∀ a, ¬ (88 ≤ a ∧ a < 104) → h0 a = none) (hE : wi x (nI 0) (nI N - nI 1) = false → Q (some (.int (-1000000000 - nI 1))) n (co (uA R 54 (upd (R 54) 1 (R 54 1 + nI 1))) W Z T kn h0)) (hNo : ∀ i, i < N → x = nI i → (∀ j, j ≤ 60 → (dsG (cvc Wc0 len0) (wvc Wc1 len1) N (fun i => (imP (W 0) N).getD i 0) (imP (W 0) N).length (cpW (W 1) (W 0)) j).1 (50 + 7 * i + 6) = nI 1) → ∀ (R1 W1 Z1 : Nat → Nat → Int32) (T1 : Nat → Nat → Nat) (kn1 : Kn) (n1 : Nat), JF R W Z R1 W1 Z1 → CI R1 W1 Z1 T1 kn1 n1 N dy Wc0 len0 Wc1 len1 → Q (some (.int (-1000000000 - nI 2))) n1 (co (uA R1 54 (upd (R1 54) 2 (R1 54 2 + nI 1))) W1 Z1 T1 kn1 h0)) (hOk : ∀ i m, i < N → x = nI i → m ≤ 60 → (∀ j, j < m → (dsG (cvc Wc0 len0) (wvc Wc1 len1) N (fun i => (imP (W 0) N).getD i 0) (imP (W 0) N).length (cpW (W 1) (W 0)) j).1 (50 + 7 * i + 6) = nI 1) → (dsG (cvc Wc0 len0) (wvc Wc1 len1) N (fun i => (imP (W 0) N).getD i 0) (imP (W 0) N).length (cpW (W 1) (W 0)) m).1 (50 + 7 * i + 6) = nI 0 → ∀ (R1 W1 Z1 : Nat → Nat → Int32) (T1 : Nat → Nat → Nat) (kn1 : Kn) (n1 : Nat), JF R W Z R1 W1 Z1 → CI R1 W1 Z1 T1 kn1 n1 N dy Wc0 len0 Wc1 len1 → Q (some (.int (nI m))) n1 (co R1 W1 Z1 T1 kn1 h0)) : Ct l M_F_when (d + 13) 9 13364 [.ref 0, .int x] n (co R W Z T kn h0) Q := by
  refine Ct.of (fun _ => trivial) (by decide) (Nat.le_of_ble_eq_true rfl) ?_
  obtain ⟨hN, e0, hdy, hd9, hB0, hB1, hx0, hx1, hT, hK⟩ := id hI
  have hpl : ∀ i, i < (imP (W 0) N).length → (fun i => (imP (W 0) N).getD i 0) i < 36 := fun i hi => by
    refine imP_lt hB0 N hN _ ?_
    show (imP (W 0) N).getD i 0 ∈ _
    rw [List.getD_eq_getElem?_getD, List.getElem?_eq_getElem hi]
    exact List.getElem_mem hi
  refine V.aload_n d_F_when_0 rfl ?_
  refine V.iload_n d_F_when_1 rfl ?_
  refine V.callV1 d_F_when_2 k_F_152_F_isTree_FV (co_s sc_ob) (Nat.le_of_ble_eq_true rfl) (by omega) (by omega) (c_F_isTree ?_)
  refine V.ifneB (tgt := 14) d_F_when_5 (by decide) (fun c_5 => ?_) (fun c_5 => ?_)
  · skip
    rw [e0] at c_5
    obtain ⟨i, hi, rfl⟩ := tre_nat hN c_5
    have hi8 : i < 8 := by omega
    refine V.aload_n d_F_when_14 rfl ?_
    refine V.get d_F_when_15 f_F_43_F (co_s sc_ob) rfl ?_
    refine V.aload_n d_F_when_18 rfl ?_
    refine V.get d_F_when_19 f_F_39_F (co_s sc_ob) rfl ?_
    refine V.callV1 d_F_when_22 k_F_212_World_imagine_WorldV (co_s (sc_wd (wb_ds 1 (by decide)).1)) (Nat.le_of_ble_eq_true rfl) (by omega) (by omega) (t_imagine (mi := 8) (si := 64) hI hh0 (Or.inl ⟨Nat.le_refl _, Nat.le_refl _⟩) (fun Ra Wa Za Ta na hJa hIa hna hWa hHa hZa hPa hAa hUa => ?_))
    have e1a : Wa 1 0 = nI N := by rw [hWa]; exact e0
    have eda : Wa 1 1 = nI dy := by rw [hWa]; exact hdy
    refine V.aload_n d_F_when_25 rfl ?_
    refine V.get d_F_when_26 f_F_43_F (co_s sc_ob) rfl ?_
    refine V.iconst_ (nI 1) d_F_when_29 (by decide +kernel) ?_
    refine V.iload_n d_F_when_30 rfl ?_
    refine V.ishl d_F_when_31 ?_
    refine V.bipush_ (nI 60) d_F_when_32 (by decide +kernel) ?_
    refine V.callV2 d_F_when_34 k_F_216_World_passUntilDown_WorldV (co_s (sc_wd (wb_ds 1 (by decide)).1)) (Nat.le_of_ble_eq_true rfl) (by omega) (by omega) (t_pass (nn := 60) (B := 1) hIa e1a eda (by omega) hPa hZa hAa (fun _ _ => bue_le) (by omega) (fun m Rb Wb Zb knb nb hmb hsb hab hJb hIb hnb hWb hrb hzb hhb hAb hbb hPb => ?_))
    rw [hWa] at hsb hab hWb hrb hzb hhb
    obtain ⟨-, e0b, hdyb, -, -, hB1b, -, -, hTb, -⟩ := id hIb
    have hlive : ∀ j, j < m → (dsG (cvc Wc0 len0) (wvc Wc1 len1) N (fun i => (imP (W 0) N).getD i 0) (imP (W 0) N).length (cpW (W 1) (W 0)) j).1 (50 + 7 * i + 6) = nI 1 := fun j hj => by
      have := mt (stS_one hN hi).mpr (hab j hj)
      exact Decidable.not_not.mp this
    refine V.aload_n d_F_when_37 rfl ?_
    refine V.get d_F_when_38 f_F_43_F (co_s sc_ob) rfl ?_
    refine V.get d_F_when_41 f_F_145_World (co_s (sc_wd (wb_ds 1 (by decide)).1)) rfl ?_
    refine V.iload_n d_F_when_44 rfl ?_
    refine V.aald d_F_when_45 (Or.inl rfl) (co_s (sc_tr (wb_ds 1 (by decide)).2.2.2.1)) (vp_in_nI (by omega) (by omega)) (by rw [icl (by omega)]; exact if_pos (by omega)) ?_
    refine V.get d_F_when_46 (ft_F_159 _ (hB1b.kd hi8)) (co_t hTb (by decide) hi8) rfl ?_
    refine V.if_eq (tgt := 60) d_F_when_49 (by decide) (fun c_49 => ?_) (fun c_49 => ?_)
    · skip
      refine V.aload_n d_F_when_60 rfl ?_
      refine V.get d_F_when_61 f_F_43_F (co_s sc_ob) rfl ?_
      refine V.get d_F_when_64 f_F_163_World (co_s (sc_wd (wb_ds 1 (by decide)).1)) rfl ?_
      refine V.aload_n d_F_when_67 rfl ?_
      refine V.get d_F_when_68 f_F_39_F (co_s sc_ob) rfl ?_
      refine V.get d_F_when_71 f_F_163_World (co_s (sc_wd (wb_ds 0 (by decide)).1)) rfl ?_
      refine V.isub d_F_when_74 ?_
      refine V.iret d_F_when_75 rfl (by omega) (by omega) ?_
      have hd : Wb 1 1 - Wb 0 1 = nI m := by
        rw [hWb, (dsG_i hN (hB1.cp hB0) hpl m).2.2.1, show cpW (W 1) (W 0) 1 = W 0 1 from rfl, hdyb, hdy, nI_add, pk_sub (by omega), Nat.add_sub_cancel_left]
      rw [hd]
      refine hOk i m hi rfl hmb hlive ?_ Rb Wb Zb Ta knb nb (hJa.tr hJb) hIb
      rw [← hWb]; exact c_49
    · skip
      refine V.aload_n d_F_when_52 rfl ?_
      refine V.iconst_ (nI 2) d_F_when_53 (by decide +kernel) ?_
      refine V.callV1 d_F_when_54 k_F_97_F_error_FV (co_s sc_ob) (Nat.le_of_ble_eq_true rfl) (by omega) (by omega) (c_F_error (by decide) ?_)
      refine V.goto (tgt := 75) d_F_when_57 (by decide) ?_
      refine V.iret d_F_when_75 rfl (by omega) (by omega) ?_
      refine hNo i hi rfl (fun j hj => ?_) Rb Wb Zb Ta knb nb (hJa.tr hJb) hIb
      have h1 : (dsG (cvc Wc0 len0) (wvc Wc1 len1) N (fun i => (imP (W 0) N).getD i 0) (imP (W 0) N).length (cpW (W 1) (W 0)) m).1 (50 + 7 * i + 6) = nI 1 := by
        obtain ⟨k6, b6, e6⟩ := hB1b.k6 hi8
        rw [hWb] at e6 c_49
        rw [e6] at c_49 ⊢
        rcases (show k6 = 0 ∨ k6 = 1 by omega) with rfl | rfl
        · exact absurd rfl c_49
        · rfl
      have hm60 : m = 60 := hsb.resolve_right (fun z => (stS_one hN hi).mp z h1)
      by_cases e : j = m
      · rw [e]; exact h1
      · exact hlive j (by omega)
  · skip
    refine V.aload_n d_F_when_8 rfl ?_
    refine V.iconst_ (nI 1) d_F_when_9 (by decide +kernel) ?_
    refine V.callV1 d_F_when_10 k_F_97_F_error_FV (co_s sc_ob) (Nat.le_of_ble_eq_true rfl) (by omega) (by omega) (c_F_error (by decide) ?_)
    refine V.iret d_F_when_13 rfl (by omega) (by omega) ?_
    rw [e0] at c_5
    exact hE c_5
theorem Qv {Q : QT} {x y : Int32} {n : Nat} {h : HP} (q : Q (some (.int x)) n h) (e : x = y) : Q (some (.int y)) n h := e ▸ q
abbrev M_F_crash : MD := (⟨"FelledByNames", "crash", "(I)I"⟩, prog_1_method_23_code, 2, (some .int), fun _ => True)
theorem d_F_crash_0 : decode prog_1_method_23_code 0 = .ok (.aload_n 0, 1) := by decide +kernel
theorem d_F_crash_1 : decode prog_1_method_23_code 1 = .ok (.iload_n 1, 1) := by decide +kernel
theorem d_F_crash_2 : decode prog_1_method_23_code 2 = .ok (.invokevirtual 152, 3) := by decide +kernel
theorem d_F_crash_5 : decode prog_1_method_23_code 5 = .ok (.ifCond .ne 9, 3) := by decide +kernel
theorem d_F_crash_14 : decode prog_1_method_23_code 14 = .ok (.aload_n 0, 1) := by decide +kernel
theorem d_F_crash_15 : decode prog_1_method_23_code 15 = .ok (.getfield 39, 3) := by decide +kernel
theorem d_F_crash_18 : decode prog_1_method_23_code 18 = .ok (.getfield 145, 3) := by decide +kernel
theorem d_F_crash_21 : decode prog_1_method_23_code 21 = .ok (.iload_n 1, 1) := by decide +kernel
theorem d_F_crash_22 : decode prog_1_method_23_code 22 = .ok (.aaload, 1) := by decide +kernel
theorem d_F_crash_23 : decode prog_1_method_23_code 23 = .ok (.getfield 159, 3) := by decide +kernel
theorem d_F_crash_26 : decode prog_1_method_23_code 26 = .ok (.ifCond .ne 5, 3) := by decide +kernel
theorem d_F_crash_31 : decode prog_1_method_23_code 31 = .ok (.aload_n 0, 1) := by decide +kernel
theorem d_F_crash_32 : decode prog_1_method_23_code 32 = .ok (.getfield 43, 3) := by decide +kernel
theorem d_F_crash_35 : decode prog_1_method_23_code 35 = .ok (.aload_n 0, 1) := by decide +kernel
theorem d_F_crash_36 : decode prog_1_method_23_code 36 = .ok (.getfield 39, 3) := by decide +kernel
theorem d_F_crash_39 : decode prog_1_method_23_code 39 = .ok (.invokevirtual 212, 3) := by decide +kernel
theorem d_F_crash_42 : decode prog_1_method_23_code 42 = .ok (.aload_n 0, 1) := by decide +kernel
theorem d_F_crash_43 : decode prog_1_method_23_code 43 = .ok (.getfield 43, 3) := by decide +kernel
theorem d_F_crash_46 : decode prog_1_method_23_code 46 = .ok (.aload_n 0, 1) := by decide +kernel
theorem d_F_crash_47 : decode prog_1_method_23_code 47 = .ok (.getfield 43, 3) := by decide +kernel
theorem d_F_crash_50 : decode prog_1_method_23_code 50 = .ok (.getfield 145, 3) := by decide +kernel
theorem d_F_crash_53 : decode prog_1_method_23_code 53 = .ok (.iload_n 1, 1) := by decide +kernel
theorem d_F_crash_54 : decode prog_1_method_23_code 54 = .ok (.aaload, 1) := by decide +kernel
theorem d_F_crash_55 : decode prog_1_method_23_code 55 = .ok (.iconst 1, 1) := by decide +kernel
theorem d_F_crash_56 : decode prog_1_method_23_code 56 = .ok (.invokevirtual 248, 3) := by decide +kernel
theorem k_F_248_World_fall_WorldVN : kVN "FelledByNames" 248 4 M_World_fall 2 := ⟨kB_World_fall, ⟨"FelledByNames", List.mem_of_getElem? (i := 3) rfl⟩, tm 754 (by decide +kernel) rfl, tp 10 (by decide +kernel) rfl, _, rfl, rfl⟩
theorem d_F_crash_59 : decode prog_1_method_23_code 59 = .ok (.aload_n 0, 1) := by decide +kernel
theorem d_F_crash_60 : decode prog_1_method_23_code 60 = .ok (.getfield 43, 3) := by decide +kernel
theorem d_F_crash_63 : decode prog_1_method_23_code 63 = .ok (.getfield 197, 3) := by decide +kernel
theorem d_F_crash_66 : decode prog_1_method_23_code 66 = .ok (.getfield 181, 3) := by decide +kernel
theorem d_F_crash_69 : decode prog_1_method_23_code 69 = .ok (.ireturn, 1) := by decide +kernel
theorem d_F_crash_29 : decode prog_1_method_23_code 29 = .ok (.iconst 0, 1) := by decide +kernel
theorem d_F_crash_30 : decode prog_1_method_23_code 30 = .ok (.ireturn, 1) := by decide +kernel
theorem d_F_crash_8 : decode prog_1_method_23_code 8 = .ok (.aload_n 0, 1) := by decide +kernel
theorem d_F_crash_9 : decode prog_1_method_23_code 9 = .ok (.iconst 1, 1) := by decide +kernel
theorem d_F_crash_10 : decode prog_1_method_23_code 10 = .ok (.invokevirtual 97, 3) := by decide +kernel
theorem d_F_crash_13 : decode prog_1_method_23_code 13 = .ok (.ireturn, 1) := by decide +kernel
set_option maxRecDepth 100000 in
theorem c_F_crash {N dy len0 len1 : Nat} {Wc0 Wc1 : Nat → Nat} {x : Int32} {l : Launch} {d n : Nat} {R W Z : Nat → Nat → Int32} {T : Nat → Nat → Nat} {kn : Kn} {h0 : HP} {Q : QT} (hI : CI R W Z T kn n N dy Wc0 len0 Wc1 len1) (hh0 : ∀ a, ¬ (88 ≤ a ∧ a < 104) → h0 a = none) (hE : wi x (nI 0) (nI N - nI 1) = false → Q (some (.int (-1000000000 - nI 1))) n (co (uA R 54 (upd (R 54) 1 (R 54 1 + nI 1))) W Z T kn h0)) (h0k : ∀ i, i < N → x = nI i → W 0 (50 + 7 * i + 6) = 0 → Q (some (.int (nI 0))) n (co R W Z T kn h0)) (hOk : ∀ i, i < N → x = nI i → W 0 (50 + 7 * i + 6) = nI 1 → ∀ (R1 W1 Z1 : Nat → Nat → Int32) (T1 : Nat → Nat → Nat) (kn1 : Kn) (n1 : Nat), JF R W Z R1 W1 Z1 → CI R1 W1 Z1 T1 kn1 n1 N dy Wc0 len0 Wc1 len1 → Q (some (.int (nI (fl (wvc Wc1 len1) N 7 i (cpW (W 1) (W 0), [])).2.length))) n1 (co R1 W1 Z1 T1 kn1 h0)) : Ct l M_F_crash (d + 11) 9 13364 [.ref 0, .int x] n (co R W Z T kn h0) Q := by
  refine Ct.of (fun _ => trivial) (by decide) (Nat.le_of_ble_eq_true rfl) ?_
  obtain ⟨hN, e0, hdy, hd9, hB0, hB1, hx0, hx1, hT, hK⟩ := id hI
  have hpl : ∀ i, i < (imP (W 0) N).length → (fun i => (imP (W 0) N).getD i 0) i < 36 := fun i hi => by
    refine imP_lt hB0 N hN _ ?_
    show (imP (W 0) N).getD i 0 ∈ _
    rw [List.getD_eq_getElem?_getD, List.getElem?_eq_getElem hi]
    exact List.getElem_mem hi
  refine V.aload_n d_F_crash_0 rfl ?_
  refine V.iload_n d_F_crash_1 rfl ?_
  refine V.callV1 d_F_crash_2 k_F_152_F_isTree_FV (co_s sc_ob) (Nat.le_of_ble_eq_true rfl) (by omega) (by omega) (c_F_isTree ?_)
  refine V.ifneB (tgt := 14) d_F_crash_5 (by decide) (fun c_5 => ?_) (fun c_5 => ?_)
  · skip
    rw [e0] at c_5
    obtain ⟨i, hi, rfl⟩ := tre_nat hN c_5
    have hi8 : i < 8 := by omega
    refine V.aload_n d_F_crash_14 rfl ?_
    refine V.get d_F_crash_15 f_F_39_F (co_s sc_ob) rfl ?_
    refine V.get d_F_crash_18 f_F_145_World (co_s (sc_wd (wb_ds 0 (by decide)).1)) rfl ?_
    refine V.iload_n d_F_crash_21 rfl ?_
    refine V.aald d_F_crash_22 (Or.inl rfl) (co_s (sc_tr (wb_ds 0 (by decide)).2.2.2.1)) (vp_in_nI (by omega) (by omega)) (by rw [icl (by omega)]; exact if_pos (by omega)) ?_
    refine V.get d_F_crash_23 (ft_F_159 _ (hB0.kd hi8)) (co_t hT (by decide) hi8) rfl ?_
    refine V.if_ne (tgt := 31) d_F_crash_26 (by decide) (fun c_26 => ?_) (fun c_26 => ?_)
    · skip
      refine V.aload_n d_F_crash_31 rfl ?_
      refine V.get d_F_crash_32 f_F_43_F (co_s sc_ob) rfl ?_
      refine V.aload_n d_F_crash_35 rfl ?_
      refine V.get d_F_crash_36 f_F_39_F (co_s sc_ob) rfl ?_
      refine V.callV1 d_F_crash_39 k_F_212_World_imagine_WorldV (co_s (sc_wd (wb_ds 1 (by decide)).1)) (Nat.le_of_ble_eq_true rfl) (by omega) (by omega) (t_imagine (mi := 8) (si := 64) hI hh0 (Or.inl ⟨Nat.le_refl _, Nat.le_refl _⟩) (fun Ra Wa Za Ta na hJa hIa hna hWa hHa hZa hPa hAa hUa => ?_))
      have e1a : Wa 1 0 = nI N := by rw [hWa]; exact e0
      have eda : Wa 1 1 = nI dy := by rw [hWa]; exact hdy
      obtain ⟨-, -, -, -, -, hB1a, -, hx1a, hTa2, hKa2⟩ := id hIa
      have hsta : Wa 1 (50 + 7 * i + 6) = nI 1 := by
        rw [hWa, show cpW (W 1) (W 0) (50 + 7 * i + 6) = W 0 (50 + 7 * i + 6) from if_pos (by omega)]
        obtain ⟨k6, b6, e6⟩ := hB0.k6 hi8
        rw [e6] at c_26 ⊢
        rcases (show k6 = 0 ∨ k6 = 1 by omega) with rfl | rfl
        · exact absurd rfl c_26
        · rfl
      refine V.aload_n d_F_crash_42 rfl ?_
      refine V.get d_F_crash_43 f_F_43_F (co_s sc_ob) rfl ?_
      refine V.aload_n d_F_crash_46 rfl ?_
      refine V.get d_F_crash_47 f_F_43_F (co_s sc_ob) rfl ?_
      refine V.get d_F_crash_50 f_F_145_World (co_s (sc_wd (wb_ds 1 (by decide)).1)) rfl ?_
      refine V.iload_n d_F_crash_53 rfl ?_
      refine V.aald d_F_crash_54 (Or.inl rfl) (co_s (sc_tr (wb_ds 1 (by decide)).2.2.2.1)) (vp_in_nI (by omega) (by omega)) (by rw [icl (by omega)]; exact if_pos (by omega)) ?_
      refine V.iconst_ (nI 1) d_F_crash_55 (by decide +kernel) ?_
      refine V.callVN2 d_F_crash_56 k_F_248_World_fall_WorldVN (co_s (sc_wd (wb_ds 1 (by decide)).1)) (Nat.le_of_ble_eq_true rfl) (by omega) (by omega) (c_World_fall (w := 1) (by decide) hx1.1 7 (d + 10) (by omega) (by omega) i 0 Ra Wa Za Ta kn h0 na _ hi hN e1a hTa2 hB1a hx1a.2.1 hx1a.2.2 hsta hZa (by have := cst_le (D := Wa 1) N; omega) (fun R2 W2 Z2 hR2 hZ2 hV2 hW2 hr52 hz42 hr62 => ?_))
      rw [hWa] at hz42 hW2
      refine V.aload_n d_F_crash_59 rfl ?_
      refine V.get d_F_crash_60 f_F_43_F (co_s sc_ob) rfl ?_
      refine V.get d_F_crash_63 f_F_197_World (co_s (sc_wd (wb_ds 1 (by decide)).1)) rfl ?_
      refine V.get d_F_crash_66 f_F_181_Row (co_s (sc_rw (wb_ds 1 (by decide)).2.2.2.2.1)) rfl ?_
      refine V.iret d_F_crash_69 rfl (by omega) (by omega) ?_
      rw [Nat.zero_add] at hz42
      have hz42' : Z2 36 1 = nI (fl (wvc Wc1 len1) N 7 i (cpW (W 1) (W 0), [])).2.length := hz42
      have hj : JF Ra Wa Za R2 W2 Z2 := by
        have w1 : wb 1 = 32 := rfl
        exact ⟨fun a h1 h2 h3 => hR2 a h2 (by omega) (by omega), fun b j h1 h2 => hZ2 b j (by omega), hV2⟩
      refine Qv (hOk i hi rfl ?_ R2 W2 Z2 Ta kn na (hJa.tr hj) (hIa.go hj ?_ hTa2 hKa2)) hz42'.symm
      · rw [← show cpW (W 1) (W 0) (50 + 7 * i + 6) = W 0 (50 + 7 * i + 6) from if_pos (by omega), ← hWa]; exact hsta
      · rw [hW2]; exact WB.fl hN 7 i _ hi (hB1.cp hB0)
    · skip
      refine V.iconst_ (nI 0) d_F_crash_29 (by decide +kernel) ?_
      refine V.iret d_F_crash_30 rfl (by omega) (by omega) ?_
      exact h0k i hi rfl c_26
  · skip
    refine V.aload_n d_F_crash_8 rfl ?_
    refine V.iconst_ (nI 1) d_F_crash_9 (by decide +kernel) ?_
    refine V.callV1 d_F_crash_10 k_F_97_F_error_FV (co_s sc_ob) (Nat.le_of_ble_eq_true rfl) (by omega) (by omega) (c_F_error (by decide) ?_)
    refine V.iret d_F_crash_13 rfl (by omega) (by omega) ?_
    rw [e0] at c_5
    exact hE c_5
