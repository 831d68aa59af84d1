theorem JF.md {R W Z : Nat → Nat → Int32} {D' : Nat → Int32} : JF R W Z R (uW W 1 D') Z := ⟨fun _ _ _ _ => rfl, fun _ _ _ _ => rfl, fun v hv => uW_n hv⟩
theorem CI.md {R W Z : Nat → Nat → Int32} {T : Nat → Nat → Nat} {kn : Kn} {n N dy len0 len1 : Nat} {Wc0 Wc1 : Nat → Nat} {D' : Nat → Int32} (h : CI R W Z T kn n N dy Wc0 len0 Wc1 len1) (hB : WB D') : CI R (uW W 1 D') Z T kn n N dy Wc0 len0 Wc1 len1 := h.go JF.md (by rw [uW_s]; exact hB) h.2.2.2.2.2.2.2.2.1 h.2.2.2.2.2.2.2.2.2
theorem AL.md {W : Nat → Nat → Int32} {D' : Nat → Int32} (h : AL W) (hk : ∀ i, i < 8 → D' (50 + 7 * i + 0) = W 1 (50 + 7 * i + 0)) : AL (uW W 1 D') := fun i hi => by rw [uW_s, uW_n (by decide), hk i hi]; exact h i hi
theorem cpW_r {D E : Nat → Int32} {j : Nat} (h : j < 6 ∨ (8 ≤ j ∧ j < 106)) : cpW D E j = E j := if_pos h
theorem imP_c {D E : Nat → Int32} : ∀ k, (∀ j, 50 ≤ j → j < 50 + 7 * k → E j = D j) → imP E k = imP D k := by
  intro k
  induction k with
  | zero => intro _; rfl
  | succ k ih =>
    intro h
    have e := ih (fun j h1 h2 => h j h1 (by omega))
    have c1 : cl1 E k = cl1 D k := by unfold cl1 tN; rw [h _ (by omega) (by omega), h _ (by omega) (by omega)]
    have c2 : cl2 E k = cl2 D k := by unfold cl2 tN; rw [h _ (by omega) (by omega), h _ (by omega) (by omega)]
    have c6 := h (50 + 7 * k + 6) (by omega) (by omega)
    show (if E (50 + 7 * k + 6) = nI 1 ∧ ¬ cl1 E k ∈ imP E k then imP E k ++ [cl1 E k, cl2 E k] else imP E k) = (if D (50 + 7 * k + 6) = nI 1 ∧ ¬ cl1 D k ∈ imP D k then imP D k ++ [cl1 D k, cl2 D k] else imP D k)
    rw [e, c1, c2, c6]
abbrev M_F_fallsByTalk : MD := (⟨"FelledByNames", "fallsByTalk", "(IIII)Z"⟩, prog_1_method_51_code, 5, (some .boolean), fun _ => True)
theorem d_F_fallsByTalk_0 : decode prog_1_method_51_code 0 = .ok (.aload_n 0, 1) := by decide +kernel
theorem d_F_fallsByTalk_1 : decode prog_1_method_51_code 1 = .ok (.getfield 43, 3) := by decide +kernel
theorem d_F_fallsByTalk_4 : decode prog_1_method_51_code 4 = .ok (.aload_n 0, 1) := by decide +kernel
theorem d_F_fallsByTalk_5 : decode prog_1_method_51_code 5 = .ok (.getfield 39, 3) := by decide +kernel
theorem d_F_fallsByTalk_8 : decode prog_1_method_51_code 8 = .ok (.invokevirtual 212, 3) := by decide +kernel
theorem d_F_fallsByTalk_11 : decode prog_1_method_51_code 11 = .ok (.aload_n 0, 1) := by decide +kernel
theorem d_F_fallsByTalk_12 : decode prog_1_method_51_code 12 = .ok (.getfield 43, 3) := by decide +kernel
theorem d_F_fallsByTalk_15 : decode prog_1_method_51_code 15 = .ok (.iload_n 1, 1) := by decide +kernel
theorem d_F_fallsByTalk_16 : decode prog_1_method_51_code 16 = .ok (.iload_n 2, 1) := by decide +kernel
theorem d_F_fallsByTalk_17 : decode prog_1_method_51_code 17 = .ok (.invokevirtual 326, 3) := by decide +kernel
theorem kB_World_talkAbout : kB M_World_talkAbout 2 := ⟨tm 5 (by decide +kernel) rfl, tm 823 (by decide +kernel) rfl, ⟨by decide, by decide, by decide +kernel⟩, by decide⟩
theorem k_F_326_World_talkAbout_WorldV : kV "FelledByNames" 326 4 M_World_talkAbout 2 := ⟨kB_World_talkAbout, tm 820 (by decide +kernel) rfl, tm 821 (by decide +kernel) rfl, tm 822 (by decide +kernel) rfl, _, rfl, rfl⟩
theorem d_F_fallsByTalk_20 : decode prog_1_method_51_code 20 = .ok (.aload_n 0, 1) := by decide +kernel
theorem d_F_fallsByTalk_21 : decode prog_1_method_51_code 21 = .ok (.getfield 43, 3) := by decide +kernel
theorem d_F_fallsByTalk_24 : decode prog_1_method_51_code 24 = .ok (.iload_n 3, 1) := by decide +kernel
theorem d_F_fallsByTalk_25 : decode prog_1_method_51_code 25 = .ok (.iload 4, 2) := by decide +kernel
theorem d_F_fallsByTalk_27 : decode prog_1_method_51_code 27 = .ok (.invokevirtual 216, 3) := by decide +kernel
theorem d_F_fallsByTalk_30 : decode prog_1_method_51_code 30 = .ok (.aload_n 0, 1) := by decide +kernel
theorem d_F_fallsByTalk_31 : decode prog_1_method_51_code 31 = .ok (.getfield 43, 3) := by decide +kernel
theorem d_F_fallsByTalk_34 : decode prog_1_method_51_code 34 = .ok (.iconst 1, 1) := by decide +kernel
theorem d_F_fallsByTalk_35 : decode prog_1_method_51_code 35 = .ok (.invokevirtual 220, 3) := by decide +kernel
theorem d_F_fallsByTalk_38 : decode prog_1_method_51_code 38 = .ok (.iload_n 3, 1) := by decide +kernel
theorem d_F_fallsByTalk_39 : decode prog_1_method_51_code 39 = .ok (.iand, 1) := by decide +kernel
theorem d_F_fallsByTalk_40 : decode prog_1_method_51_code 40 = .ok (.ifCond .ne 7, 3) := by decide +kernel
theorem d_F_fallsByTalk_47 : decode prog_1_method_51_code 47 = .ok (.iconst 0, 1) := by decide +kernel
theorem d_F_fallsByTalk_48 : decode prog_1_method_51_code 48 = .ok (.ireturn, 1) := by decide +kernel
theorem d_F_fallsByTalk_43 : decode prog_1_method_51_code 43 = .ok (.iconst 1, 1) := by decide +kernel
theorem d_F_fallsByTalk_44 : decode prog_1_method_51_code 44 = .ok (.goto 4, 3) := by decide +kernel
set_option maxRecDepth 100000 in
theorem c_F_fallsByTalk {N dy len0 len1 : Nat} {Wc0 Wc1 : Nat → Nat} {k mi si B : Nat} {x v y : Int32} {l : Launch} {d n : Nat} {R W Z : Nat → Nat → Int32} {T : Nat → Nat → Nat} {kn : Kn} {h0 : HP} {Q : QT} (hI : CI R W Z T kn n N dy Wc0 len0 Wc1 len1) (hh0 : ∀ a, ¬ (88 ≤ a ∧ a < 104) → h0 a = none) (he : (8 ≤ mi ∧ 64 ≤ si) ∨ AL W) (hv : ∃ q, q ≤ 9 ∧ v = nI q) (hk : k ≤ 60) (hBe : B = (if 0 < k ∧ ¬ (stS (tbI (cpW (W 1) (W 0)) x v 6) true N &&& y) = 0 then bue len0 (imP (W 0) N).length kn else 0)) (hQ : ∀ (R1 W1 Z1 : Nat → Nat → Int32) (T1 : Nat → Nat → Nat) (kn1 : Kn) (n1 : Nat), JF R W Z R1 W1 Z1 → CI R1 W1 Z1 T1 kn1 n1 N dy Wc0 len0 Wc1 len1 → AL W1 → bue len0 (imP (W 0) N).length kn1 + B = bue len0 (imP (W 0) N).length kn → Q (some (.int (bi (decide ((stS (dsG (cvc Wc0 len0) (wvc Wc1 len1) N (fun i => (imP (W 0) N).getD i 0) (imP (W 0) N).length (tbI (cpW (W 1) (W 0)) x v 6) k).1 true N &&& y) = 0))))) n1 (co R1 W1 Z1 T1 kn1 h0)) : Ct l M_F_fallsByTalk (d + 13) (mi + B) (si + 13300 * B) [.ref 0, .int x, .int v, .int y, .int (nI k)] n (co R W Z T kn h0) Q := by
  refine Ct.of (fun _ => trivial) (by decide) (Nat.le_of_ble_eq_true rfl) ?_
  obtain ⟨hN, e0, hdy, hd9, hB0, hB1, hx0, hx1, hT, hK⟩ := id hI
  have hpl : ∀ i, i < (imP (W 0) N).length → (fun i => (imP (W 0) N).getD i 0) i < 36 := fun i hi => by
    refine imP_lt hB0 N hN _ ?_
    show (imP (W 0) N).getD i 0 ∈ _
    rw [List.getD_eq_getElem?_getD, List.getElem?_eq_getElem hi]
    exact List.getElem_mem hi
  refine V.aload_n d_F_fallsByTalk_0 rfl ?_
  refine V.get d_F_fallsByTalk_1 f_F_43_F (co_s sc_ob) rfl ?_
  refine V.aload_n d_F_fallsByTalk_4 rfl ?_
  refine V.get d_F_fallsByTalk_5 f_F_39_F (co_s sc_ob) rfl ?_
  refine V.callV1 d_F_fallsByTalk_8 k_F_212_World_imagine_WorldV (co_s (sc_wd (wb_ds 1 (by decide)).1)) (Nat.le_of_ble_eq_true rfl) (by omega) (by omega) (t_imagine (mi := mi) (si := si) hI hh0 he (fun Ra Wa Za Ta na hJa hIa hna hWa hHa hZa hPa hAa => ?_))
  obtain ⟨-, -, -, -, -, hB1a, -, -, hTa2, hKa2⟩ := id hIa
  refine V.aload_n d_F_fallsByTalk_11 rfl ?_
  refine V.get d_F_fallsByTalk_12 f_F_43_F (co_s sc_ob) rfl ?_
  refine V.iload_n d_F_fallsByTalk_15 rfl ?_
  refine V.iload_n d_F_fallsByTalk_16 rfl ?_
  refine V.callV2 d_F_fallsByTalk_17 k_F_326_World_talkAbout_WorldV (co_s (sc_wd (wb_ds 1 (by decide)).1)) (Nat.le_of_ble_eq_true rfl) (by omega) (by omega) (c_World_talkAbout (w := 1) (by decide) hTa2 ?_)
  have hBt : WB (tbI (cpW (W 1) (W 0)) x v 6) := (hB1.cp hB0).tb hv 6 (Nat.le_refl _)
  rw [hWa]
  have hIt := hIa.md hBt
  have hAt := hAa.md (D' := (tbI (cpW (W 1) (W 0)) x v 6)) (fun i hi => by rw [tbI_x (by omega) 6 (Nat.le_refl _), hWa])
  have e1t : uW Wa 1 (tbI (cpW (W 1) (W 0)) x v 6) 1 0 = nI N := by rw [uW_s, tbI_x (by omega) 6 (Nat.le_refl _)]; exact e0
  have edt : uW Wa 1 (tbI (cpW (W 1) (W 0)) x v 6) 1 1 = nI dy := by rw [uW_s, tbI_x (by omega) 6 (Nat.le_refl _)]; exact hdy
  refine V.aload_n d_F_fallsByTalk_20 rfl ?_
  refine V.get d_F_fallsByTalk_21 f_F_43_F (co_s sc_ob) rfl ?_
  refine V.iload_n d_F_fallsByTalk_24 rfl ?_
  refine V.iload d_F_fallsByTalk_25 rfl ?_
  refine V.callV2 d_F_fallsByTalk_27 k_F_216_World_passUntilDown_WorldV (co_s (sc_wd (wb_ds 1 (by decide)).1)) (Nat.le_of_ble_eq_true rfl) (by omega) (by omega) (t_pass (nn := k) (B := B) hIt e1t edt (by omega) hPa hZa hAt (fun q1 q2 => by rw [uW_s] at q2; rw [hBe, if_pos ⟨q1, q2⟩]; exact Nat.le_refl _) (by omega) (fun m Rb Wb Zb knb nb hmb hsb hab hJb hIb hnb hWb hrb hzb hhb hAb hbb hPb => ?_))
  rw [uW_s] at hsb hWb hbb
  obtain ⟨-, e0b, -, -, -, hB1b, -, -, hTb, -⟩ := id hIb
  have q := pud_and (cv := cvc Wc0 len0) (wv := wvc Wc1 len1) (D := (tbI (cpW (W 1) (W 0)) x v 6)) (y := y) hN hpl hmb hsb
  have e1b : Wb 1 0 = nI N := by rw [hWb, (dsG_i hN hBt hpl m).2.1, tbI_x (by omega) 6 (Nat.le_refl _)]; exact e0
  have hbe : bue len0 (imP (W 0) N).length knb + B = bue len0 (imP (W 0) N).length kn := by
    rw [hBe]
    by_cases z : 0 < k ∧ ¬ (stS (tbI (cpW (W 1) (W 0)) x v 6) true N &&& y) = 0
    · rw [if_pos z, hbb.1 z, Nat.zero_add]
    · rw [if_neg z, hbb.2 z, Nat.add_zero]
  have hJq : JF R W Z Rb Wb Zb := hJa.tr (JF.md.tr hJb)
  refine V.aload_n d_F_fallsByTalk_30 rfl ?_
  refine V.get d_F_fallsByTalk_31 f_F_43_F (co_s sc_ob) rfl ?_
  refine V.iconst_ (nI 1) d_F_fallsByTalk_34 (by decide +kernel) ?_
  refine V.callV1 d_F_fallsByTalk_35 k_F_220_World_setOfTrees_WorldV (co_s (sc_wd (wb_ds 1 (by decide)).1)) (Nat.le_of_ble_eq_true rfl) (by omega) (by omega) (c_World_setOfTrees (w := 1) (b := true) (by decide) hTb hB1b hN e1b ?_)
  rw [hWb]
  refine V.iload_n d_F_fallsByTalk_38 rfl ?_
  refine V.iand d_F_fallsByTalk_39 ?_
  refine V.if_ne (tgt := 47) d_F_fallsByTalk_40 (by decide) (fun c_40 => ?_) (fun c_40 => ?_)
  · skip
    refine V.iconst_ (nI 0) d_F_fallsByTalk_47 (by decide +kernel) ?_
    refine V.zret d_F_fallsByTalk_48 rfl rfl (by omega) (by omega) ?_
    have h := hQ Rb Wb Zb Ta knb nb hJq hIb hAb hbe
    rw [decide_eq_false (fun z => c_40 (q.mpr z))] at h
    exact h
  · skip
    refine V.iconst_ (nI 1) d_F_fallsByTalk_43 (by decide +kernel) ?_
    refine V.goto (tgt := 48) d_F_fallsByTalk_44 (by decide) ?_
    refine V.zret d_F_fallsByTalk_48 rfl rfl (by omega) (by omega) ?_
    have h := hQ Rb Wb Zb Ta knb nb hJq hIb hAb hbe
    rw [decide_eq_true (q.mp c_40)] at h
    exact h
