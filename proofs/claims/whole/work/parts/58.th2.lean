theorem JF.md {R W Z : Nat → Nat → Int32} {D' : Nat → Int32} : JF R W Z R (uW W 1 D') Z := ⟨fun _ _ _ _ => rfl, fun _ _ _ _ => rfl, fun v hv => uW_n hv⟩
theorem CI.md {R W Z : Nat → Nat → Int32} {T : Nat → Nat → Nat} {kn : Kn} {n N dy len0 len1 : Nat} {Wc0 Wc1 : Nat → Nat} {D' : Nat → Int32} (h : CI R W Z T kn n N dy Wc0 len0 Wc1 len1) (hB : WB D') : CI R (uW W 1 D') Z T kn n N dy Wc0 len0 Wc1 len1 := h.go JF.md (by rw [uW_s]; exact hB) h.2.2.2.2.2.2.2.2.1 h.2.2.2.2.2.2.2.2.2
theorem AL.md {W : Nat → Nat → Int32} {D' : Nat → Int32} (h : AL W) (hk : ∀ i, i < 8 → D' (50 + 7 * i + 0) = W 1 (50 + 7 * i + 0)) : AL (uW W 1 D') := fun i hi => by rw [uW_s, uW_n (by decide), hk i hi]; exact h i hi
theorem cpW_r {D E : Nat → Int32} {j : Nat} (h : j < 6 ∨ (8 ≤ j ∧ j < 106)) : cpW D E j = E j := if_pos h
theorem AG.tb {N : Nat} {P : Nat → Prop} {D E : Nat → Int32} {x v : Int32} (h : AG N P D E) : ∀ k, AG N P (tbI D x v k) (tbI E x v k) := by
  intro k
  induction k with
  | zero => exact h
  | succ k ih =>
    by_cases c : ((x >>> (nI k &&& 31)) &&& nI 1) = nI 1
    · rw [tbI_t c, tbI_t c]; exact ih.u
    · rw [tbI_f c, tbI_f c]; exact ih
theorem imP_c {D E : Nat → Int32} : ∀ k, (∀ j, 50 ≤ j → j < 50 + 7 * k → E j = D j) → imP E k = imP D k := by
  intro k
  induction k with
  | zero => intro _; rfl
  | succ k ih =>
    intro h
    have e := ih (fun j h1 h2 => h j h1 (by omega))
    have c1 : cl1 E k = cl1 D k := by unfold cl1 tN; rw [h _ (by omega) (by omega), h _ (by omega) (by omega)]
    have c2 : cl2 E k = cl2 D k := by unfold cl2 tN; rw [h _ (by omega) (by omega), h _ (by omega) (by omega)]
    have c6 := h (50 + 7 * k + 6) (by omega) (by omega)
    show (if E (50 + 7 * k + 6) = nI 1 ∧ ¬ cl1 E k ∈ imP E k then imP E k ++ [cl1 E k, cl2 E k] else imP E k) = (if D (50 + 7 * k + 6) = nI 1 ∧ ¬ cl1 D k ∈ imP D k then imP D k ++ [cl1 D k, cl2 D k] else imP D k)
    rw [e, c1, c2, c6]
abbrev M_F_fallsByTalk : MD := (⟨"FelledByNames", "fallsByTalk", "(IIII)Z"⟩, prog_1_method_51_code, 5, (some .boolean), fun _ => True)
theorem d_F_fallsByTalk_0 : decode prog_1_method_51_code 0 = .ok (.aload_n 0, 1) := by decide +kernel
theorem d_F_fallsByTalk_1 : decode prog_1_method_51_code 1 = .ok (.getfield 43, 3) := by decide +kernel
theorem d_F_fallsByTalk_4 : decode prog_1_method_51_code 4 = .ok (.aload_n 0, 1) := by decide +kernel
theorem d_F_fallsByTalk_5 : decode prog_1_method_51_code 5 = .ok (.getfield 39, 3) := by decide +kernel
theorem d_F_fallsByTalk_8 : decode prog_1_method_51_code 8 = .ok (.invokevirtual 212, 3) := by decide +kernel
theorem d_F_fallsByTalk_11 : decode prog_1_method_51_code 11 = .ok (.aload_n 0, 1) := by decide +kernel
theorem d_F_fallsByTalk_12 : decode prog_1_method_51_code 12 = .ok (.getfield 43, 3) := by decide +kernel
theorem d_F_fallsByTalk_15 : decode prog_1_method_51_code 15 = .ok (.iload_n 1, 1) := by decide +kernel
theorem d_F_fallsByTalk_16 : decode prog_1_method_51_code 16 = .ok (.iload_n 2, 1) := by decide +kernel
theorem d_F_fallsByTalk_17 : decode prog_1_method_51_code 17 = .ok (.invokevirtual 326, 3) := by decide +kernel
theorem kB_World_talkAbout : kB M_World_talkAbout 2 := ⟨tm 5 (by decide +kernel) rfl, tm 818 (by decide +kernel) rfl, ⟨by decide, by decide, by decide +kernel⟩, by decide⟩
theorem k_F_326_World_talkAbout_WorldV : kV "FelledByNames" 326 4 M_World_talkAbout 2 := ⟨kB_World_talkAbout, tm 815 (by decide +kernel) rfl, tm 816 (by decide +kernel) rfl, tm 817 (by decide +kernel) rfl, _, rfl, rfl⟩
theorem d_F_fallsByTalk_20 : decode prog_1_method_51_code 20 = .ok (.aload_n 0, 1) := by decide +kernel
theorem d_F_fallsByTalk_21 : decode prog_1_method_51_code 21 = .ok (.getfield 43, 3) := by decide +kernel
theorem d_F_fallsByTalk_24 : decode prog_1_method_51_code 24 = .ok (.iload_n 3, 1) := by decide +kernel
theorem d_F_fallsByTalk_25 : decode prog_1_method_51_code 25 = .ok (.iload 4, 2) := by decide +kernel
theorem d_F_fallsByTalk_27 : decode prog_1_method_51_code 27 = .ok (.invokevirtual 216, 3) := by decide +kernel
theorem d_F_fallsByTalk_30 : decode prog_1_method_51_code 30 = .ok (.aload_n 0, 1) := by decide +kernel
theorem d_F_fallsByTalk_31 : decode prog_1_method_51_code 31 = .ok (.getfield 43, 3) := by decide +kernel
theorem d_F_fallsByTalk_34 : decode prog_1_method_51_code 34 = .ok (.iconst 1, 1) := by decide +kernel
theorem d_F_fallsByTalk_35 : decode prog_1_method_51_code 35 = .ok (.invokevirtual 220, 3) := by decide +kernel
theorem d_F_fallsByTalk_38 : decode prog_1_method_51_code 38 = .ok (.iload_n 3, 1) := by decide +kernel
theorem d_F_fallsByTalk_39 : decode prog_1_method_51_code 39 = .ok (.iand, 1) := by decide +kernel
theorem d_F_fallsByTalk_40 : decode prog_1_method_51_code 40 = .ok (.ifCond .ne 7, 3) := by decide +kernel
theorem d_F_fallsByTalk_47 : decode prog_1_method_51_code 47 = .ok (.iconst 0, 1) := by decide +kernel
theorem d_F_fallsByTalk_48 : decode prog_1_method_51_code 48 = .ok (.ireturn, 1) := by decide +kernel
theorem d_F_fallsByTalk_43 : decode prog_1_method_51_code 43 = .ok (.iconst 1, 1) := by decide +kernel
theorem d_F_fallsByTalk_44 : decode prog_1_method_51_code 44 = .ok (.goto 4, 3) := by decide +kernel
set_option maxRecDepth 100000 in
theorem c_F_fallsByTalk {N dy len0 len1 : Nat} {Wc0 Wc1 : Nat → Nat} {D0 : Nat → Int32} {k mi si B : Nat} {x v y : Int32} {l : Launch} {d n : Nat} {R W Z : Nat → Nat → Int32} {T : Nat → Nat → Nat} {kn : Kn} {h0 : HP} {Q : QT} (hI : CI R W Z T kn n N dy Wc0 len0 Wc1 len1) (hh0 : ∀ a, ¬ (88 ≤ a ∧ a < 104) → h0 a = none) (hD0 : W 0 = D0) (he : (8 ≤ mi ∧ 64 ≤ si) ∨ AL W) (hv : ∃ q, q ≤ 9 ∧ v = nI q) (hk : k ≤ 60) (hBe : B = (if 0 < k ∧ ¬ (stS D0 true N &&& y) = 0 then bue len0 (imP D0 N).length kn else 0)) (hQ : ∀ (R1 W1 Z1 : Nat → Nat → Int32) (T1 : Nat → Nat → Nat) (kn1 : Kn) (n1 : Nat), JF R W Z R1 W1 Z1 → CI R1 W1 Z1 T1 kn1 n1 N dy Wc0 len0 Wc1 len1 → (∀ i, T1 0 i = T 0 i) → AL W1 → bue len0 (imP D0 N).length kn1 + B = bue len0 (imP D0 N).length kn → Q (some (.int (bi (decide ((stS (dsG (cvc Wc0 len0) (wvc Wc1 len1) N (fun i => (imP D0 N).getD i 0) (imP D0 N).length (tbI D0 x v 6) k).1 true N &&& y) = 0))))) n1 (co R1 W1 Z1 T1 kn1 h0)) : Ct l M_F_fallsByTalk (d + 13) (mi + B) (si + 13300 * B) [.ref 0, .int x, .int v, .int y, .int (nI k)] n (co R W Z T kn h0) Q := by
  refine Ct.of (fun _ => trivial) (by decide) (Nat.le_of_ble_eq_true rfl) ?_
  subst hD0
  obtain ⟨hN, e0, hdy, hd9, hB0, hB1, hx0, hx1, hT, hK⟩ := id hI
  have hpl : ∀ i, i < (imP (W 0) N).length → (fun i => (imP (W 0) N).getD i 0) i < 36 := fun i hi => by
    refine imP_lt hB0 N hN _ ?_
    show (imP (W 0) N).getD i 0 ∈ _
    rw [List.getD_eq_getElem?_getD, List.getElem?_eq_getElem hi]
    exact List.getElem_mem hi
  refine V.aload_n d_F_fallsByTalk_0 rfl ?_
  refine V.get d_F_fallsByTalk_1 f_F_43_F (co_s sc_ob) rfl ?_
  refine V.aload_n d_F_fallsByTalk_4 rfl ?_
  refine V.get d_F_fallsByTalk_5 f_F_39_F (co_s sc_ob) rfl ?_
  refine V.callV1 d_F_fallsByTalk_8 k_F_212_World_imagine_WorldV (co_s (sc_wd (wb_ds 1 (by decide)).1)) (Nat.le_of_ble_eq_true rfl) (by omega) (by omega) (t_imagine (mi := mi) (si := si) hI hh0 he (fun Ra Wa Za Ta na hJa hIa hna hWa hHa hZa hPa hAa hUa => ?_))
  obtain ⟨-, -, -, -, -, hB1a, -, -, hTa2, hKa2⟩ := id hIa
  refine V.aload_n d_F_fallsByTalk_11 rfl ?_
  refine V.get d_F_fallsByTalk_12 f_F_43_F (co_s sc_ob) rfl ?_
  refine V.iload_n d_F_fallsByTalk_15 rfl ?_
  refine V.iload_n d_F_fallsByTalk_16 rfl ?_
  refine V.callV2 d_F_fallsByTalk_17 k_F_326_World_talkAbout_WorldV (co_s (sc_wd (wb_ds 1 (by decide)).1)) (Nat.le_of_ble_eq_true rfl) (by omega) (by omega) (c_World_talkAbout (w := 1) (by decide) hTa2 ?_)
  have hBt : WB (tbI (cpW (W 1) (W 0)) x v 6) := (hB1.cp hB0).tb hv 6 (Nat.le_refl _)
  rw [hWa]
  have hAG : AG N (fun _ => True) (tbI (W 0) x v 6) (tbI (cpW (W 1) (W 0)) x v 6) := (AG.cp hN).tb 6
  have eS0 : stS (tbI (cpW (W 1) (W 0)) x v 6) true N = stS (W 0) true N := hAG.stS_.trans (stS_c N (fun i _ => tbI_x (by omega) 6 (Nat.le_refl _)))
  have hIt := hIa.md hBt
  have hAt := hAa.md (D' := (tbI (cpW (W 1) (W 0)) x v 6)) (fun i hi => by rw [tbI_x (by omega) 6 (Nat.le_refl _), hWa])
  have e1t : uW Wa 1 (tbI (cpW (W 1) (W 0)) x v 6) 1 0 = nI N := by rw [uW_s, tbI_x (by omega) 6 (Nat.le_refl _)]; exact e0
  have edt : uW Wa 1 (tbI (cpW (W 1) (W 0)) x v 6) 1 1 = nI dy := by rw [uW_s, tbI_x (by omega) 6 (Nat.le_refl _)]; exact hdy
  refine V.aload_n d_F_fallsByTalk_20 rfl ?_
  refine V.get d_F_fallsByTalk_21 f_F_43_F (co_s sc_ob) rfl ?_
  refine V.iload_n d_F_fallsByTalk_24 rfl ?_
  refine V.iload d_F_fallsByTalk_25 rfl ?_
  refine V.callV2 d_F_fallsByTalk_27 k_F_216_World_passUntilDown_WorldV (co_s (sc_wd (wb_ds 1 (by decide)).1)) (Nat.le_of_ble_eq_true rfl) (by omega) (by omega) (t_pass (nn := k) (B := B) hIt e1t edt (by omega) hPa hZa hAt (fun q1 q2 => by rw [uW_s, eS0] at q2; rw [hBe, if_pos ⟨q1, q2⟩]; exact Nat.le_refl _) (by omega) (fun m Rb Wb Zb knb nb hmb hsb hab hJb hIb hnb hWb hrb hzb hhb hAb hbb hPb => ?_))
  rw [uW_s] at hsb hWb hbb
  obtain ⟨-, e0b, -, -, -, hB1b, -, -, hTb, -⟩ := id hIb
  have q := pud_and (cv := cvc Wc0 len0) (wv := wvc Wc1 len1) (D := (tbI (cpW (W 1) (W 0)) x v 6)) (y := y) hN hpl hmb hsb
  have e1b : Wb 1 0 = nI N := by rw [hWb, (dsG_i hN hBt hpl m).2.1, tbI_x (by omega) 6 (Nat.le_refl _)]; exact e0
  have hbe : bue len0 (imP (W 0) N).length knb + B = bue len0 (imP (W 0) N).length kn := by
    rw [hBe]
    rw [eS0] at hbb
    by_cases z : 0 < k ∧ ¬ (stS (W 0) true N &&& y) = 0
    · rw [if_pos z, hbb.1 z, Nat.zero_add]
    · rw [if_neg z, hbb.2 z, Nat.add_zero]
  have eSk : stS (dsG (cvc Wc0 len0) (wvc Wc1 len1) N (fun i => (imP (W 0) N).getD i 0) (imP (W 0) N).length (tbI (cpW (W 1) (W 0)) x v 6) k).1 true N = stS (dsG (cvc Wc0 len0) (wvc Wc1 len1) N (fun i => (imP (W 0) N).getD i 0) (imP (W 0) N).length (tbI (W 0) x v 6) k).1 true N := (dsG_ag hpl hAG ((hB0.tb hv 6 (Nat.le_refl _)).tb5 hN) k).1.stS_
  rw [eSk] at q
  have hJq : JF R W Z Rb Wb Zb := hJa.tr (JF.md.tr hJb)
  refine V.aload_n d_F_fallsByTalk_30 rfl ?_
  refine V.get d_F_fallsByTalk_31 f_F_43_F (co_s sc_ob) rfl ?_
  refine V.iconst_ (nI 1) d_F_fallsByTalk_34 (by decide +kernel) ?_
  refine V.callV1 d_F_fallsByTalk_35 k_F_220_World_setOfTrees_WorldV (co_s (sc_wd (wb_ds 1 (by decide)).1)) (Nat.le_of_ble_eq_true rfl) (by omega) (by omega) (c_World_setOfTrees (w := 1) (b := true) (by decide) hTb hB1b hN e1b ?_)
  rw [hWb]
  refine V.iload_n d_F_fallsByTalk_38 rfl ?_
  refine V.iand d_F_fallsByTalk_39 ?_
  refine V.if_ne (tgt := 47) d_F_fallsByTalk_40 (by decide) (fun c_40 => ?_) (fun c_40 => ?_)
  · skip
    refine V.iconst_ (nI 0) d_F_fallsByTalk_47 (by decide +kernel) ?_
    refine V.zret d_F_fallsByTalk_48 rfl rfl (by omega) (by omega) ?_
    have h := hQ Rb Wb Zb Ta knb nb hJq hIb (fun i => hUa 0 i (by decide)) hAb hbe
    rw [decide_eq_false (fun z => c_40 (q.mpr z))] at h
    exact h
  · skip
    refine V.iconst_ (nI 1) d_F_fallsByTalk_43 (by decide +kernel) ?_
    refine V.goto (tgt := 48) d_F_fallsByTalk_44 (by decide) ?_
    refine V.zret d_F_fallsByTalk_48 rfl rfl (by omega) (by omega) ?_
    have h := hQ Rb Wb Zb Ta knb nb hJq hIb (fun i => hUa 0 i (by decide)) hAb hbe
    rw [decide_eq_true (q.mp c_40)] at h
    exact h
abbrev M_F_gossip : MD := (⟨"FelledByNames", "gossip", "(II)I"⟩, prog_1_method_20_code, 5, (some .int), fun _ => True)
theorem d_F_gossip_0 : decode prog_1_method_20_code 0 = .ok (.aload_n 0, 1) := by decide +kernel
theorem d_F_gossip_1 : decode prog_1_method_20_code 1 = .ok (.iload_n 1, 1) := by decide +kernel
theorem d_F_gossip_2 : decode prog_1_method_20_code 2 = .ok (.invokevirtual 152, 3) := by decide +kernel
theorem d_F_gossip_5 : decode prog_1_method_20_code 5 = .ok (.ifCond .eq 12, 3) := by decide +kernel
theorem d_F_gossip_17 : decode prog_1_method_20_code 17 = .ok (.aload_n 0, 1) := by decide +kernel
theorem d_F_gossip_18 : decode prog_1_method_20_code 18 = .ok (.iconst 1, 1) := by decide +kernel
theorem d_F_gossip_19 : decode prog_1_method_20_code 19 = .ok (.invokevirtual 97, 3) := by decide +kernel
theorem d_F_gossip_22 : decode prog_1_method_20_code 22 = .ok (.ireturn, 1) := by decide +kernel
theorem d_F_gossip_8 : decode prog_1_method_20_code 8 = .ok (.iload_n 2, 1) := by decide +kernel
theorem d_F_gossip_9 : decode prog_1_method_20_code 9 = .ok (.bipush 30, 2) := by decide +kernel
theorem d_F_gossip_11 : decode prog_1_method_20_code 11 = .ok (.invokestatic 94, 3) := by decide +kernel
theorem d_F_gossip_14 : decode prog_1_method_20_code 14 = .ok (.ifCond .ne 9, 3) := by decide +kernel
theorem d_F_gossip_23 : decode prog_1_method_20_code 23 = .ok (.aload_n 0, 1) := by decide +kernel
theorem d_F_gossip_24 : decode prog_1_method_20_code 24 = .ok (.getfield 39, 3) := by decide +kernel
theorem d_F_gossip_27 : decode prog_1_method_20_code 27 = .ok (.getfield 145, 3) := by decide +kernel
theorem d_F_gossip_30 : decode prog_1_method_20_code 30 = .ok (.iload_n 1, 1) := by decide +kernel
theorem d_F_gossip_31 : decode prog_1_method_20_code 31 = .ok (.aaload, 1) := by decide +kernel
theorem d_F_gossip_32 : decode prog_1_method_20_code 32 = .ok (.astore_n 3, 1) := by decide +kernel
theorem d_F_gossip_33 : decode prog_1_method_20_code 33 = .ok (.iconst 0, 1) := by decide +kernel
theorem d_F_gossip_34 : decode prog_1_method_20_code 34 = .ok (.istore 4, 2) := by decide +kernel
theorem d_F_gossip_36 : decode prog_1_method_20_code 36 = .ok (.iload 4, 2) := by decide +kernel
theorem d_F_gossip_38 : decode prog_1_method_20_code 38 = .ok (.bipush 9, 2) := by decide +kernel
theorem d_F_gossip_40 : decode prog_1_method_20_code 40 = .ok (.if_icmp .gt 38, 3) := by decide +kernel
theorem d_F_gossip_78 : decode prog_1_method_20_code 78 = .ok (.aload_n 0, 1) := by decide +kernel
theorem d_F_gossip_79 : decode prog_1_method_20_code 79 = .ok (.iconst 2, 1) := by decide +kernel
theorem d_F_gossip_80 : decode prog_1_method_20_code 80 = .ok (.invokevirtual 97, 3) := by decide +kernel
theorem d_F_gossip_83 : decode prog_1_method_20_code 83 = .ok (.ireturn, 1) := by decide +kernel
theorem d_F_gossip_43 : decode prog_1_method_20_code 43 = .ok (.aload_n 0, 1) := by decide +kernel
theorem d_F_gossip_44 : decode prog_1_method_20_code 44 = .ok (.iconst 1, 1) := by decide +kernel
theorem d_F_gossip_45 : decode prog_1_method_20_code 45 = .ok (.aload_n 3, 1) := by decide +kernel
theorem d_F_gossip_46 : decode prog_1_method_20_code 46 = .ok (.getfield 133, 3) := by decide +kernel
theorem d_F_gossip_49 : decode prog_1_method_20_code 49 = .ok (.ishl, 1) := by decide +kernel
theorem d_F_gossip_50 : decode prog_1_method_20_code 50 = .ok (.iconst 1, 1) := by decide +kernel
theorem d_F_gossip_51 : decode prog_1_method_20_code 51 = .ok (.aload_n 3, 1) := by decide +kernel
theorem d_F_gossip_52 : decode prog_1_method_20_code 52 = .ok (.getfield 136, 3) := by decide +kernel
theorem d_F_gossip_55 : decode prog_1_method_20_code 55 = .ok (.ishl, 1) := by decide +kernel
theorem d_F_gossip_56 : decode prog_1_method_20_code 56 = .ok (.ior, 1) := by decide +kernel
theorem d_F_gossip_57 : decode prog_1_method_20_code 57 = .ok (.iload 4, 2) := by decide +kernel
theorem d_F_gossip_59 : decode prog_1_method_20_code 59 = .ok (.iconst 1, 1) := by decide +kernel
theorem d_F_gossip_60 : decode prog_1_method_20_code 60 = .ok (.iload_n 1, 1) := by decide +kernel
theorem d_F_gossip_61 : decode prog_1_method_20_code 61 = .ok (.ishl, 1) := by decide +kernel
theorem d_F_gossip_62 : decode prog_1_method_20_code 62 = .ok (.iload_n 2, 1) := by decide +kernel
theorem d_F_gossip_63 : decode prog_1_method_20_code 63 = .ok (.invokevirtual 224, 3) := by decide +kernel
theorem kB_F_fallsByTalk : kB M_F_fallsByTalk 4 := ⟨tm 1 (by decide +kernel) rfl, tm 814 (by decide +kernel) rfl, ⟨by decide, by decide, by decide +kernel⟩, by decide⟩
theorem k_F_224_F_fallsByTalk_FV : kV "FelledByNames" 224 0 M_F_fallsByTalk 4 := ⟨kB_F_fallsByTalk, tm 811 (by decide +kernel) rfl, tm 813 (by decide +kernel) rfl, tp 11 (by decide +kernel) rfl, _, rfl, rfl⟩
theorem d_F_gossip_66 : decode prog_1_method_20_code 66 = .ok (.ifCond .eq 6, 3) := by decide +kernel
theorem d_F_gossip_72 : decode prog_1_method_20_code 72 = .ok (.iinc 4 1, 3) := by decide +kernel
theorem d_F_gossip_75 : decode prog_1_method_20_code 75 = .ok (.goto (-39), 3) := by decide +kernel
theorem d_F_gossip_69 : decode prog_1_method_20_code 69 = .ok (.iload 4, 2) := by decide +kernel
theorem d_F_gossip_71 : decode prog_1_method_20_code 71 = .ok (.ireturn, 1) := by decide +kernel
set_option maxRecDepth 100000 in
theorem c_F_gossip {N dy len0 len1 : Nat} {Wc0 Wc1 : Nat → Nat} {x y : Int32} {l : Launch} {d n : Nat} {R W Z : Nat → Nat → Int32} {T : Nat → Nat → Nat} {kn : Kn} {h0 : HP} {Q : QT} (hI : CI R W Z T kn n N dy Wc0 len0 Wc1 len1) (hh0 : ∀ a, ¬ (88 ≤ a ∧ a < 104) → h0 a = none) (hE : (wi x (nI 0) (nI N - nI 1) && wi y (nI 0) (nI 30)) = false → Q (some (.int (-1000000000 - nI 1))) n (co (uA R 54 (upd (R 54) 1 (R 54 1 + nI 1))) W Z T kn h0)) (hNo : ∀ i k, i < N → k ≤ 30 → x = nI i → y = nI k → (∀ v, v < 10 → ¬ ((stS (dsG (cvc Wc0 len0) (wvc Wc1 len1) N (fun i => (imP (W 0) N).getD i 0) (imP (W 0) N).length (tbI (W 0) ((nI 1 <<< (W 0 (50 + 7 * i + 2) &&& 31)) ||| (nI 1 <<< (W 0 (50 + 7 * i + 3) &&& 31))) (nI v) 6) k).1 true N &&& (nI 1 <<< (nI i &&& 31))) = 0)) → ∀ (R1 W1 Z1 : Nat → Nat → Int32) (T1 : Nat → Nat → Nat) (kn1 : Kn) (n1 : Nat), JF R W Z R1 W1 Z1 → CI R1 W1 Z1 T1 kn1 n1 N dy Wc0 len0 Wc1 len1 → Q (some (.int (-1000000000 - nI 2))) n1 (co (uA R1 54 (upd (R1 54) 2 (R1 54 2 + nI 1))) W1 Z1 T1 kn1 h0)) (hOk : ∀ i k v, i < N → k ≤ 30 → x = nI i → y = nI k → v < 10 → (∀ u, u < v → ¬ ((stS (dsG (cvc Wc0 len0) (wvc Wc1 len1) N (fun i => (imP (W 0) N).getD i 0) (imP (W 0) N).length (tbI (W 0) ((nI 1 <<< (W 0 (50 + 7 * i + 2) &&& 31)) ||| (nI 1 <<< (W 0 (50 + 7 * i + 3) &&& 31))) (nI u) 6) k).1 true N &&& (nI 1 <<< (nI i &&& 31))) = 0)) → ((stS (dsG (cvc Wc0 len0) (wvc Wc1 len1) N (fun i => (imP (W 0) N).getD i 0) (imP (W 0) N).length (tbI (W 0) ((nI 1 <<< (W 0 (50 + 7 * i + 2) &&& 31)) ||| (nI 1 <<< (W 0 (50 + 7 * i + 3) &&& 31))) (nI v) 6) k).1 true N &&& (nI 1 <<< (nI i &&& 31))) = 0) → ∀ (R1 W1 Z1 : Nat → Nat → Int32) (T1 : Nat → Nat → Nat) (kn1 : Kn) (n1 : Nat), JF R W Z R1 W1 Z1 → CI R1 W1 Z1 T1 kn1 n1 N dy Wc0 len0 Wc1 len1 → Q (some (.int (nI v))) n1 (co R1 W1 Z1 T1 kn1 h0)) : Ct l M_F_gossip (d + 14) 9 13364 [.ref 0, .int x, .int y] n (co R W Z T kn h0) Q := by
  refine Ct.of (fun _ => trivial) (by decide) (Nat.le_of_ble_eq_true rfl) ?_
  obtain ⟨hN, e0, hdy, hd9, hB0, hB1, hx0, hx1, hT, hK⟩ := id hI
  have hpl : ∀ i, i < (imP (W 0) N).length → (fun i => (imP (W 0) N).getD i 0) i < 36 := fun i hi => by
    refine imP_lt hB0 N hN _ ?_
    show (imP (W 0) N).getD i 0 ∈ _
    rw [List.getD_eq_getElem?_getD, List.getElem?_eq_getElem hi]
    exact List.getElem_mem hi
  refine V.aload_n d_F_gossip_0 rfl ?_
  refine V.iload_n d_F_gossip_1 rfl ?_
  refine V.callV1 d_F_gossip_2 k_F_152_F_isTree_FV (co_s sc_ob) (Nat.le_of_ble_eq_true rfl) (by omega) (by omega) (c_F_isTree ?_)
  refine V.ifeqB (tgt := 17) d_F_gossip_5 (by decide) (fun c_5 => ?_) (fun c_5 => ?_)
  · skip
    refine V.aload_n d_F_gossip_17 rfl ?_
    refine V.iconst_ (nI 1) d_F_gossip_18 (by decide +kernel) ?_
    refine V.callV1 d_F_gossip_19 k_F_97_F_error_FV (co_s sc_ob) (Nat.le_of_ble_eq_true rfl) (by omega) (by omega) (c_F_error (by decide) ?_)
    refine V.iret d_F_gossip_22 rfl (by omega) (by omega) ?_
    rw [e0] at c_5
    exact hE (by simp only [c_5, Bool.and_false, Bool.false_and, Bool.and_true, Bool.true_and])
  · skip
    refine V.iload_n d_F_gossip_8 rfl ?_
    refine V.bipush_ (nI 30) d_F_gossip_9 (by decide +kernel) ?_
    refine V.callS2 d_F_gossip_11 k_F_94_F_withinS (Nat.le_of_ble_eq_true rfl) (by omega) (by omega) (c_F_within ?_)
    refine V.ifneB (tgt := 23) d_F_gossip_14 (by decide) (fun c_14 => ?_) (fun c_14 => ?_)
    · skip
      rw [e0] at c_5
      obtain ⟨i, hi, rfl⟩ := tre_nat hN c_5
      have hi8 : i < 8 := by omega
      obtain ⟨k, hk, rfl⟩ := wi_nat (k := 30) (by decide) c_14
      refine V.aload_n d_F_gossip_23 rfl ?_
      refine V.get d_F_gossip_24 f_F_39_F (co_s sc_ob) rfl ?_
      refine V.get d_F_gossip_27 f_F_145_World (co_s (sc_wd (wb_ds 0 (by decide)).1)) rfl ?_
      refine V.iload_n d_F_gossip_30 rfl ?_
      refine V.aald d_F_gossip_31 (Or.inl rfl) (co_s (sc_tr (wb_ds 0 (by decide)).2.2.2.1)) (vp_in_nI (by omega) (by omega)) (by rw [icl (by omega)]; exact if_pos (by omega)) ?_
      refine V.astore_n d_F_gossip_32 (by decide) ?_
      refine V.iconst_ (nI 0) d_F_gossip_33 (by decide +kernel) ?_
      refine V.istore d_F_gossip_34 (by decide) ?_
      refine V.lc (ls' := [(0, .ref 0), (1, .int (nI i)), (2, .int (nI k)), (3, .ref (T 0 i)), (4, .int (nI 0))]) rfl ?_
      refine up_to (G := fun u => ∀ (R1 W1 Z1 : Nat → Nat → Int32) (T1 : Nat → Nat → Nat) (kn1 : Kn) (n1 c s : Nat), JF R W Z R1 W1 Z1 → CI R1 W1 Z1 T1 kn1 n1 N dy Wc0 len0 Wc1 len1 → (∀ i, T1 0 i = T 0 i) → (∀ q, q < u → ¬ ((stS (dsG (cvc Wc0 len0) (wvc Wc1 len1) N (fun i => (imP (W 0) N).getD i 0) (imP (W 0) N).length (tbI (W 0) ((nI 1 <<< (W 0 (50 + 7 * i + 2) &&& 31)) ||| (nI 1 <<< (W 0 (50 + 7 * i + 3) &&& 31))) (nI q) 6) k).1 true N &&& (nI 1 <<< (nI i &&& 31))) = 0)) → (∃ mi si, ((8 ≤ mi ∧ 64 ≤ si) ∨ AL W1) ∧ c + mi + bue len0 (imP (W 0) N).length kn1 ≤ 9 ∧ s + si + 13300 * bue len0 (imP (W 0) N).length kn1 ≤ 13364) → V l M_F_gossip (d + 14) 9 13364 36 [(0, .ref 0), (1, .int (nI i)), (2, .int (nI k)), (3, .ref (T 0 i)), (4, .int (nI u))] [] n1 (co R1 W1 Z1 T1 kn1 h0) c s Q) (10) ?_ (fun u hu hn => ?_) 0 (by omega) R W Z T kn n 0 0 JF.id hI (fun _ => rfl) (fun q hq => absurd hq (by omega)) ⟨8, 64, Or.inl ⟨Nat.le_refl _, Nat.le_refl _⟩, by have := bue_le (len := len0) (np := (imP (W 0) N).length) (kn := kn); omega, by have := bue_le (len := len0) (np := (imP (W 0) N).length) (kn := kn); omega⟩
      · skip
        intro R1 W1 Z1 T1 kn1 n1 c s hJ1 hI1 hU1 hall hcs
        obtain ⟨mi, si, hmi, hc9, hs9⟩ := hcs
        refine V.iload d_F_gossip_36 rfl ?_
        refine V.bipush_ (nI 9) d_F_gossip_38 (by decide +kernel) ?_
        refine V.gtN (tgt := 78) d_F_gossip_40 (by decide) (by omega) (by omega) (fun c_40 => ?_) (fun c_40 => ?_)
        · skip
          refine V.aload_n d_F_gossip_78 rfl ?_
          refine V.iconst_ (nI 2) d_F_gossip_79 (by decide +kernel) ?_
          refine V.callV1 d_F_gossip_80 k_F_97_F_error_FV (co_s sc_ob) (Nat.le_of_ble_eq_true rfl) (by omega) (by omega) (c_F_error (by decide) ?_)
          refine V.iret d_F_gossip_83 rfl (by omega) (by omega) ?_
          exact hNo i k hi hk rfl rfl hall R1 W1 Z1 T1 kn1 n1 hJ1 hI1
        · skip
          exact absurd c_40 (by omega)
      · skip
        intro R1 W1 Z1 T1 kn1 n1 c s hJ1 hI1 hU1 hall hcs
        obtain ⟨mi, si, hmi, hc9, hs9⟩ := hcs
        obtain ⟨B, hBe⟩ : ∃ b, b = (if 0 < k ∧ ¬ (stS (W 0) true N &&& (nI 1 <<< (nI i &&& 31))) = 0 then bue len0 (imP (W 0) N).length kn1 else 0) := ⟨_, rfl⟩
        have hBl : B ≤ bue len0 (imP (W 0) N).length kn1 := by rw [hBe]; split <;> omega
        have eW0 : W1 0 = W 0 := hJ1.2.2 0 (by decide)
        obtain ⟨-, -, -, -, hB01, -, -, -, hT1, -⟩ := id hI1
        rw [← hU1 i]
        refine V.iload d_F_gossip_36 rfl ?_
        refine V.bipush_ (nI 9) d_F_gossip_38 (by decide +kernel) ?_
        refine V.gtN (tgt := 78) d_F_gossip_40 (by decide) (by omega) (by omega) (fun c_40 => ?_) (fun c_40 => ?_)
        · skip
          exact absurd c_40 (by omega)
        · skip
          refine V.aload_n d_F_gossip_43 rfl ?_
          refine V.iconst_ (nI 1) d_F_gossip_44 (by decide +kernel) ?_
          refine V.aload_n d_F_gossip_45 rfl ?_
          refine V.get d_F_gossip_46 (ft_F_133 _ (hB01.kd hi8)) (co_t hT1 (by decide) hi8) rfl ?_
          refine V.ishl d_F_gossip_49 ?_
          refine V.iconst_ (nI 1) d_F_gossip_50 (by decide +kernel) ?_
          refine V.aload_n d_F_gossip_51 rfl ?_
          refine V.get d_F_gossip_52 (ft_F_136 _ (hB01.kd hi8)) (co_t hT1 (by decide) hi8) rfl ?_
          refine V.ishl d_F_gossip_55 ?_
          refine V.ior d_F_gossip_56 ?_
          refine V.top (y := ((nI 1 <<< (W 0 (50 + 7 * i + 2) &&& 31)) ||| (nI 1 <<< (W 0 (50 + 7 * i + 3) &&& 31)))) (by rw [eW0]) ?_
          refine V.iload d_F_gossip_57 rfl ?_
          refine V.iconst_ (nI 1) d_F_gossip_59 (by decide +kernel) ?_
          refine V.iload_n d_F_gossip_60 rfl ?_
          refine V.ishl d_F_gossip_61 ?_
          refine V.iload_n d_F_gossip_62 rfl ?_
          refine V.callV4 d_F_gossip_63 k_F_224_F_fallsByTalk_FV (co_s sc_ob) (Nat.le_of_ble_eq_true rfl) (by omega) (by omega) (c_F_fallsByTalk (mi := mi) (si := si) (B := B) (D0 := W 0) hI1 hh0 eW0 hmi ⟨u, by omega, rfl⟩ (by omega) hBe (fun R2 W2 Z2 T2 kn2 n2 hJ2 hI2 hU2 hA2 hb2 => ?_))
          refine V.ifeqB (tgt := 72) d_F_gossip_66 (by decide) (fun c_66 => ?_) (fun c_66 => ?_)
          · skip
            refine V.incN d_F_gossip_72 rfl (by decide) ?_
            refine V.goto (tgt := 36) d_F_gossip_75 (by decide) ?_
            rw [hU1 i]
            refine V.lc rfl (hn R2 W2 Z2 T2 kn2 n2 _ _ (hJ1.tr hJ2) hI2 (fun i => (hU2 i).trans (hU1 i)) (fun q hq => ?_) ⟨0, 0, Or.inr hA2, by omega, by omega⟩)
            by_cases e : q = u
            · subst e; exact of_decide_eq_false c_66
            · exact hall q (by omega)
          · skip
            refine V.iload d_F_gossip_69 rfl ?_
            refine V.iret d_F_gossip_71 rfl (by omega) (by omega) ?_
            exact hOk i k u hi hk rfl rfl hu hall (of_decide_eq_true c_66) R2 W2 Z2 T2 kn2 n2 (hJ1.tr hJ2) hI2
    · skip
      refine V.aload_n d_F_gossip_17 rfl ?_
      refine V.iconst_ (nI 1) d_F_gossip_18 (by decide +kernel) ?_
      refine V.callV1 d_F_gossip_19 k_F_97_F_error_FV (co_s sc_ob) (Nat.le_of_ble_eq_true rfl) (by omega) (by omega) (c_F_error (by decide) ?_)
      refine V.iret d_F_gossip_22 rfl (by omega) (by omega) ?_
      rw [e0] at c_5
      exact hE (by simp only [c_5, c_14, Bool.and_false, Bool.false_and, Bool.and_true, Bool.true_and])
abbrev M_F_about : MD := (⟨"FelledByNames", "about", "(II)I"⟩, prog_1_method_21_code, 5, (some .int), fun _ => True)
theorem bcv_tab : ∀ v, v < 256 → (bcv (nI v)).toNatClampNeg ≤ 8 ∧ bcv (nI v) = nI (bcv (nI v)).toNatClampNeg := by decide +kernel
theorem bcv_nat (v : Nat) (hv : v < 256) : ∃ z, z ≤ 8 ∧ bcv (nI v) = nI z := ⟨_, (bcv_tab v hv).1, (bcv_tab v hv).2⟩
theorem d_F_about_0 : decode prog_1_method_21_code 0 = .ok (.iload_n 1, 1) := by decide +kernel
theorem d_F_about_1 : decode prog_1_method_21_code 1 = .ok (.iconst 1, 1) := by decide +kernel
theorem d_F_about_2 : decode prog_1_method_21_code 2 = .ok (.aload_n 0, 1) := by decide +kernel
theorem d_F_about_3 : decode prog_1_method_21_code 3 = .ok (.getfield 39, 3) := by decide +kernel
theorem d_F_about_6 : decode prog_1_method_21_code 6 = .ok (.getfield 121, 3) := by decide +kernel
theorem d_F_about_9 : decode prog_1_method_21_code 9 = .ok (.ishl, 1) := by decide +kernel
theorem d_F_about_10 : decode prog_1_method_21_code 10 = .ok (.iconst 1, 1) := by decide +kernel
theorem d_F_about_11 : decode prog_1_method_21_code 11 = .ok (.isub, 1) := by decide +kernel
theorem d_F_about_12 : decode prog_1_method_21_code 12 = .ok (.invokestatic 94, 3) := by decide +kernel
theorem d_F_about_15 : decode prog_1_method_21_code 15 = .ok (.ifCond .eq 12, 3) := by decide +kernel
theorem d_F_about_27 : decode prog_1_method_21_code 27 = .ok (.aload_n 0, 1) := by decide +kernel
theorem d_F_about_28 : decode prog_1_method_21_code 28 = .ok (.iconst 1, 1) := by decide +kernel
theorem d_F_about_29 : decode prog_1_method_21_code 29 = .ok (.invokevirtual 97, 3) := by decide +kernel
theorem d_F_about_32 : decode prog_1_method_21_code 32 = .ok (.ireturn, 1) := by decide +kernel
theorem d_F_about_18 : decode prog_1_method_21_code 18 = .ok (.iload_n 2, 1) := by decide +kernel
theorem d_F_about_19 : decode prog_1_method_21_code 19 = .ok (.bipush 30, 2) := by decide +kernel
theorem d_F_about_21 : decode prog_1_method_21_code 21 = .ok (.invokestatic 94, 3) := by decide +kernel
theorem d_F_about_24 : decode prog_1_method_21_code 24 = .ok (.ifCond .ne 9, 3) := by decide +kernel
theorem d_F_about_33 : decode prog_1_method_21_code 33 = .ok (.iconst 0, 1) := by decide +kernel
theorem d_F_about_34 : decode prog_1_method_21_code 34 = .ok (.istore_n 3, 1) := by decide +kernel
theorem d_F_about_35 : decode prog_1_method_21_code 35 = .ok (.iload_n 3, 1) := by decide +kernel
theorem d_F_about_36 : decode prog_1_method_21_code 36 = .ok (.bipush 6, 2) := by decide +kernel
theorem d_F_about_38 : decode prog_1_method_21_code 38 = .ok (.if_icmp .gt 50, 3) := by decide +kernel
theorem d_F_about_88 : decode prog_1_method_21_code 88 = .ok (.aload_n 0, 1) := by decide +kernel
theorem d_F_about_89 : decode prog_1_method_21_code 89 = .ok (.iconst 2, 1) := by decide +kernel
theorem d_F_about_90 : decode prog_1_method_21_code 90 = .ok (.invokevirtual 97, 3) := by decide +kernel
theorem d_F_about_93 : decode prog_1_method_21_code 93 = .ok (.ireturn, 1) := by decide +kernel
theorem d_F_about_41 : decode prog_1_method_21_code 41 = .ok (.iconst 0, 1) := by decide +kernel
theorem d_F_about_42 : decode prog_1_method_21_code 42 = .ok (.istore 4, 2) := by decide +kernel
theorem d_F_about_44 : decode prog_1_method_21_code 44 = .ok (.iload 4, 2) := by decide +kernel
theorem d_F_about_46 : decode prog_1_method_21_code 46 = .ok (.bipush 64, 2) := by decide +kernel
theorem d_F_about_48 : decode prog_1_method_21_code 48 = .ok (.if_icmp .ge 34, 3) := by decide +kernel
theorem d_F_about_82 : decode prog_1_method_21_code 82 = .ok (.iinc 3 1, 3) := by decide +kernel
theorem d_F_about_85 : decode prog_1_method_21_code 85 = .ok (.goto (-50), 3) := by decide +kernel
theorem d_F_about_51 : decode prog_1_method_21_code 51 = .ok (.iload 4, 2) := by decide +kernel
theorem d_F_about_53 : decode prog_1_method_21_code 53 = .ok (.invokestatic 228, 3) := by decide +kernel
theorem kB_Integer_bitCount : kB M_Integer_bitCount 1 := ⟨tm 22 (by decide +kernel) rfl, tm 825 (by decide +kernel) rfl, ⟨by decide, by decide, by decide +kernel⟩, by decide⟩
theorem k_F_228_Integer_bitCountS : kS "FelledByNames" 228 M_Integer_bitCount 1 := ⟨kB_Integer_bitCount, tm 823 (by decide +kernel) rfl, tm 824 (by decide +kernel) rfl⟩
theorem d_F_about_56 : decode prog_1_method_21_code 56 = .ok (.iload_n 3, 1) := by decide +kernel
theorem d_F_about_57 : decode prog_1_method_21_code 57 = .ok (.if_icmp .ne 19, 3) := by decide +kernel
theorem d_F_about_76 : decode prog_1_method_21_code 76 = .ok (.iinc 4 1, 3) := by decide +kernel
theorem d_F_about_79 : decode prog_1_method_21_code 79 = .ok (.goto (-35), 3) := by decide +kernel
theorem d_F_about_60 : decode prog_1_method_21_code 60 = .ok (.aload_n 0, 1) := by decide +kernel
theorem d_F_about_61 : decode prog_1_method_21_code 61 = .ok (.iload 4, 2) := by decide +kernel
theorem d_F_about_63 : decode prog_1_method_21_code 63 = .ok (.bipush 9, 2) := by decide +kernel
theorem d_F_about_65 : decode prog_1_method_21_code 65 = .ok (.iload_n 1, 1) := by decide +kernel
theorem d_F_about_66 : decode prog_1_method_21_code 66 = .ok (.iload_n 2, 1) := by decide +kernel
theorem d_F_about_67 : decode prog_1_method_21_code 67 = .ok (.invokevirtual 224, 3) := by decide +kernel
theorem d_F_about_70 : decode prog_1_method_21_code 70 = .ok (.ifCond .eq 6, 3) := by decide +kernel
theorem d_F_about_73 : decode prog_1_method_21_code 73 = .ok (.iload 4, 2) := by decide +kernel
theorem d_F_about_75 : decode prog_1_method_21_code 75 = .ok (.ireturn, 1) := by decide +kernel
set_option maxRecDepth 100000 in
theorem c_F_about {N dy len0 len1 : Nat} {Wc0 Wc1 : Nat → Nat} {x y : Int32} {l : Launch} {d n : Nat} {R W Z : Nat → Nat → Int32} {T : Nat → Nat → Nat} {kn : Kn} {h0 : HP} {Q : QT} (hI : CI R W Z T kn n N dy Wc0 len0 Wc1 len1) (hh0 : ∀ a, ¬ (88 ≤ a ∧ a < 104) → h0 a = none) (hE : (wi x (nI 0) ((nI 1 <<< (nI N &&& 31)) - nI 1) && wi y (nI 0) (nI 30)) = false → Q (some (.int (-1000000000 - nI 1))) n (co (uA R 54 (upd (R 54) 1 (R 54 1 + nI 1))) W Z T kn h0)) (hNo : ∀ k, k ≤ 30 → y = nI k → wi x (nI 0) ((nI 1 <<< (nI N &&& 31)) - nI 1) = true → (∀ v, v < 64 → bcv (nI v) ≤ nI 6 → ¬ ((stS (dsG (cvc Wc0 len0) (wvc Wc1 len1) N (fun i => (imP (W 0) N).getD i 0) (imP (W 0) N).length (tbI (W 0) (nI v) (nI 9) 6) k).1 true N &&& x) = 0)) → ∀ (R1 W1 Z1 : Nat → Nat → Int32) (T1 : Nat → Nat → Nat) (kn1 : Kn) (n1 : Nat), JF R W Z R1 W1 Z1 → CI R1 W1 Z1 T1 kn1 n1 N dy Wc0 len0 Wc1 len1 → Q (some (.int (-1000000000 - nI 2))) n1 (co (uA R1 54 (upd (R1 54) 2 (R1 54 2 + nI 1))) W1 Z1 T1 kn1 h0)) (hOk : ∀ k z v, k ≤ 30 → y = nI k → wi x (nI 0) ((nI 1 <<< (nI N &&& 31)) - nI 1) = true → v < 64 → z ≤ 6 → bcv (nI v) = nI z → (∀ r u, r < z → u < 64 → bcv (nI u) = nI r → ¬ ((stS (dsG (cvc Wc0 len0) (wvc Wc1 len1) N (fun i => (imP (W 0) N).getD i 0) (imP (W 0) N).length (tbI (W 0) (nI u) (nI 9) 6) k).1 true N &&& x) = 0)) → (∀ u, u < v → bcv (nI u) = nI z → ¬ ((stS (dsG (cvc Wc0 len0) (wvc Wc1 len1) N (fun i => (imP (W 0) N).getD i 0) (imP (W 0) N).length (tbI (W 0) (nI u) (nI 9) 6) k).1 true N &&& x) = 0)) → ((stS (dsG (cvc Wc0 len0) (wvc Wc1 len1) N (fun i => (imP (W 0) N).getD i 0) (imP (W 0) N).length (tbI (W 0) (nI v) (nI 9) 6) k).1 true N &&& x) = 0) → ∀ (R1 W1 Z1 : Nat → Nat → Int32) (T1 : Nat → Nat → Nat) (kn1 : Kn) (n1 : Nat), JF R W Z R1 W1 Z1 → CI R1 W1 Z1 T1 kn1 n1 N dy Wc0 len0 Wc1 len1 → Q (some (.int (nI v))) n1 (co R1 W1 Z1 T1 kn1 h0)) : Ct l M_F_about (d + 14) 9 13364 [.ref 0, .int x, .int y] n (co R W Z T kn h0) Q := by
  refine Ct.of (fun _ => trivial) (by decide) (Nat.le_of_ble_eq_true rfl) ?_
  obtain ⟨hN, e0, hdy, hd9, hB0, hB1, hx0, hx1, hT, hK⟩ := id hI
  have hpl : ∀ i, i < (imP (W 0) N).length → (fun i => (imP (W 0) N).getD i 0) i < 36 := fun i hi => by
    refine imP_lt hB0 N hN _ ?_
    show (imP (W 0) N).getD i 0 ∈ _
    rw [List.getD_eq_getElem?_getD, List.getElem?_eq_getElem hi]
    exact List.getElem_mem hi
  refine V.iload_n d_F_about_0 rfl ?_
  refine V.iconst_ (nI 1) d_F_about_1 (by decide +kernel) ?_
  refine V.aload_n d_F_about_2 rfl ?_
  refine V.get d_F_about_3 f_F_39_F (co_s sc_ob) rfl ?_
  refine V.get d_F_about_6 f_F_121_World (co_s (sc_wd (wb_ds 0 (by decide)).1)) rfl ?_
  rw [e0]
  refine V.ishl d_F_about_9 ?_
  refine V.iconst_ (nI 1) d_F_about_10 (by decide +kernel) ?_
  refine V.isub d_F_about_11 ?_
  refine V.callS2 d_F_about_12 k_F_94_F_withinS (Nat.le_of_ble_eq_true rfl) (by omega) (by omega) (c_F_within ?_)
  refine V.ifeqB (tgt := 27) d_F_about_15 (by decide) (fun c_15 => ?_) (fun c_15 => ?_)
  · skip
    refine V.aload_n d_F_about_27 rfl ?_
    refine V.iconst_ (nI 1) d_F_about_28 (by decide +kernel) ?_
    refine V.callV1 d_F_about_29 k_F_97_F_error_FV (co_s sc_ob) (Nat.le_of_ble_eq_true rfl) (by omega) (by omega) (c_F_error (by decide) ?_)
    refine V.iret d_F_about_32 rfl (by omega) (by omega) ?_
    exact hE (by simp only [c_15, Bool.and_false, Bool.false_and, Bool.and_true, Bool.true_and])
  · skip
    refine V.iload_n d_F_about_18 rfl ?_
    refine V.bipush_ (nI 30) d_F_about_19 (by decide +kernel) ?_
    refine V.callS2 d_F_about_21 k_F_94_F_withinS (Nat.le_of_ble_eq_true rfl) (by omega) (by omega) (c_F_within ?_)
    refine V.ifneB (tgt := 33) d_F_about_24 (by decide) (fun c_24 => ?_) (fun c_24 => ?_)
    · skip
      obtain ⟨k, hk, rfl⟩ := wi_nat (k := 30) (by decide) c_24
      refine V.iconst_ (nI 0) d_F_about_33 (by decide +kernel) ?_
      refine V.istore_n d_F_about_34 (by decide) ?_
      refine V.lc (ls' := [(0, .ref 0), (1, .int x), (2, .int (nI k)), (3, .int (nI 0))]) rfl ?_
      refine up_to (G := fun z => ∀ (R1 W1 Z1 : Nat → Nat → Int32) (T1 : Nat → Nat → Nat) (kn1 : Kn) (n1 c s : Nat), JF R W Z R1 W1 Z1 → CI R1 W1 Z1 T1 kn1 n1 N dy Wc0 len0 Wc1 len1 → (∀ i, T1 0 i = T 0 i) → (∀ r u, r < z → u < 64 → bcv (nI u) = nI r → ¬ ((stS (dsG (cvc Wc0 len0) (wvc Wc1 len1) N (fun i => (imP (W 0) N).getD i 0) (imP (W 0) N).length (tbI (W 0) (nI u) (nI 9) 6) k).1 true N &&& x) = 0)) → (∃ mi si, ((8 ≤ mi ∧ 64 ≤ si) ∨ AL W1) ∧ c + mi + bue len0 (imP (W 0) N).length kn1 ≤ 9 ∧ s + si + 13300 * bue len0 (imP (W 0) N).length kn1 ≤ 13364) → V l M_F_about (d + 14) 9 13364 35 [(0, .ref 0), (1, .int x), (2, .int (nI k)), (3, .int (nI z))] [] n1 (co R1 W1 Z1 T1 kn1 h0) c s Q) (7) ?_ (fun z hz hn => ?_) 0 (by omega) R W Z T kn n 0 0 JF.id hI (fun _ => rfl) (fun r u hr => absurd hr (by omega)) ⟨8, 64, Or.inl ⟨Nat.le_refl _, Nat.le_refl _⟩, by have := bue_le (len := len0) (np := (imP (W 0) N).length) (kn := kn); omega, by have := bue_le (len := len0) (np := (imP (W 0) N).length) (kn := kn); omega⟩
      · skip
        intro R1 W1 Z1 T1 kn1 n1 c s hJ1 hI1 hU1 hall hcs
        obtain ⟨mi, si, hmi, hc9, hs9⟩ := id hcs
        refine V.iload_n d_F_about_35 rfl ?_
        refine V.bipush_ (nI 6) d_F_about_36 (by decide +kernel) ?_
        refine V.gtN (tgt := 88) d_F_about_38 (by decide) (by omega) (by omega) (fun c_38 => ?_) (fun c_38 => ?_)
        · skip
          refine V.aload_n d_F_about_88 rfl ?_
          refine V.iconst_ (nI 2) d_F_about_89 (by decide +kernel) ?_
          refine V.callV1 d_F_about_90 k_F_97_F_error_FV (co_s sc_ob) (Nat.le_of_ble_eq_true rfl) (by omega) (by omega) (c_F_error (by decide) ?_)
          refine V.iret d_F_about_93 rfl (by omega) (by omega) ?_
          refine hNo k hk rfl c_15 (fun v hv hb => ?_) R1 W1 Z1 T1 kn1 n1 hJ1 hI1
          obtain ⟨z, hz, ez⟩ := bcv_nat v (by omega)
          rw [ez] at hb
          exact hall z v (by have := (nI_leI (by omega) (by decide)).mp hb; omega) hv ez
        · skip
          exact absurd c_38 (by omega)
      · skip
        intro R1 W1 Z1 T1 kn1 n1 c s hJ1 hI1 hU1 hall hcs
        refine V.iload_n d_F_about_35 rfl ?_
        refine V.bipush_ (nI 6) d_F_about_36 (by decide +kernel) ?_
        refine V.gtN (tgt := 88) d_F_about_38 (by decide) (by omega) (by omega) (fun c_38 => ?_) (fun c_38 => ?_)
        · skip
          exact absurd c_38 (by omega)
        · skip
          refine V.iconst_ (nI 0) d_F_about_41 (by decide +kernel) ?_
          refine V.istore d_F_about_42 (by decide) ?_
          refine V.lc (ls' := [(0, .ref 0), (1, .int x), (2, .int (nI k)), (3, .int (nI z)), (4, .int (nI 0))]) rfl ?_
          refine up_to (G := fun v => ∀ (R1 W1 Z1 : Nat → Nat → Int32) (T1 : Nat → Nat → Nat) (kn1 : Kn) (n1 c s : Nat), JF R W Z R1 W1 Z1 → CI R1 W1 Z1 T1 kn1 n1 N dy Wc0 len0 Wc1 len1 → (∀ i, T1 0 i = T 0 i) → (∀ u, u < v → bcv (nI u) = nI z → ¬ ((stS (dsG (cvc Wc0 len0) (wvc Wc1 len1) N (fun i => (imP (W 0) N).getD i 0) (imP (W 0) N).length (tbI (W 0) (nI u) (nI 9) 6) k).1 true N &&& x) = 0)) → (∃ mi si, ((8 ≤ mi ∧ 64 ≤ si) ∨ AL W1) ∧ c + mi + bue len0 (imP (W 0) N).length kn1 ≤ 9 ∧ s + si + 13300 * bue len0 (imP (W 0) N).length kn1 ≤ 13364) → V l M_F_about (d + 14) 9 13364 44 [(0, .ref 0), (1, .int x), (2, .int (nI k)), (3, .int (nI z)), (4, .int (nI v))] [] n1 (co R1 W1 Z1 T1 kn1 h0) c s Q) (64) ?_ (fun v hv hn => ?_) 0 (by omega) R1 W1 Z1 T1 kn1 n1 c s hJ1 hI1 hU1 (fun u hu => absurd hu (by omega)) hcs
          · skip
            intro R1 W1 Z1 T1 kn1 n1 c s hJ1 hI1 hU1 hal2 hcs
            refine V.iload d_F_about_44 rfl ?_
            refine V.bipush_ (nI 64) d_F_about_46 (by decide +kernel) ?_
            refine V.geN (tgt := 82) d_F_about_48 (by decide) (by omega) (by omega) (fun c_48 => ?_) (fun c_48 => ?_)
            · skip
              refine V.incN d_F_about_82 rfl (by decide) ?_
              refine V.goto (tgt := 35) d_F_about_85 (by decide) ?_
              refine V.lc rfl (hn R1 W1 Z1 T1 kn1 n1 c s hJ1 hI1 hU1 (fun r u hr hu hb => ?_) hcs)
              by_cases e : r = z
              · subst e; exact hal2 u hu hb
              · exact hall r u (by omega) hu hb
            · skip
              exact absurd c_48 (by omega)
          · skip
            intro R1 W1 Z1 T1 kn1 n1 c s hJ1 hI1 hU1 hal2 hcs
            obtain ⟨mi, si, hmi, hc9, hs9⟩ := hcs
            obtain ⟨B, hBe⟩ : ∃ b, b = (if 0 < k ∧ ¬ (stS (W 0) true N &&& x) = 0 then bue len0 (imP (W 0) N).length kn1 else 0) := ⟨_, rfl⟩
            have hBl : B ≤ bue len0 (imP (W 0) N).length kn1 := by rw [hBe]; split <;> omega
            have eW0 : W1 0 = W 0 := hJ1.2.2 0 (by decide)
            obtain ⟨-, -, -, -, hB01, -, -, -, hT1, -⟩ := id hI1
            refine V.iload d_F_about_44 rfl ?_
            refine V.bipush_ (nI 64) d_F_about_46 (by decide +kernel) ?_
            refine V.geN (tgt := 82) d_F_about_48 (by decide) (by omega) (by omega) (fun c_48 => ?_) (fun c_48 => ?_)
            · skip
              exact absurd c_48 (by omega)
            · skip
              refine V.iload d_F_about_51 rfl ?_
              refine V.callS1 d_F_about_53 k_F_228_Integer_bitCountS (Nat.le_of_ble_eq_true rfl) (by omega) (by omega) (c_Integer_bitCount ?_)
              refine V.iload_n d_F_about_56 rfl ?_
              refine V.icmp_ne (tgt := 76) d_F_about_57 (by decide) (fun c_57 => ?_) (fun c_57 => ?_)
              · skip
                refine V.incN d_F_about_76 rfl (by decide) ?_
                refine V.goto (tgt := 44) d_F_about_79 (by decide) ?_
                refine V.lc rfl (hn R1 W1 Z1 T1 kn1 n1 _ _ hJ1 hI1 hU1 (fun q hq hb => ?_) ⟨mi, si, hmi, hc9, hs9⟩)
                by_cases e : q = v
                · subst e; exact absurd hb c_57
                · exact hal2 q (by omega) hb
              · skip
                refine V.aload_n d_F_about_60 rfl ?_
                refine V.iload d_F_about_61 rfl ?_
                refine V.bipush_ (nI 9) d_F_about_63 (by decide +kernel) ?_
                refine V.iload_n d_F_about_65 rfl ?_
                refine V.iload_n d_F_about_66 rfl ?_
                refine V.callV4 d_F_about_67 k_F_224_F_fallsByTalk_FV (co_s sc_ob) (Nat.le_of_ble_eq_true rfl) (by omega) (by omega) (c_F_fallsByTalk (mi := mi) (si := si) (B := B) (D0 := W 0) hI1 hh0 eW0 hmi ⟨9, by omega, rfl⟩ (by omega) hBe (fun R2 W2 Z2 T2 kn2 n2 hJ2 hI2 hU2 hA2 hb2 => ?_))
                refine V.ifeqB (tgt := 76) d_F_about_70 (by decide) (fun c_70 => ?_) (fun c_70 => ?_)
                · skip
                  refine V.incN d_F_about_76 rfl (by decide) ?_
                  refine V.goto (tgt := 44) d_F_about_79 (by decide) ?_
                  refine V.lc rfl (hn R2 W2 Z2 T2 kn2 n2 _ _ (hJ1.tr hJ2) hI2 (fun i => (hU2 i).trans (hU1 i)) (fun q hq hb => ?_) ⟨0, 0, Or.inr hA2, by omega, by omega⟩)
                  by_cases e : q = v
                  · subst e; exact of_decide_eq_false c_70
                  · exact hal2 q (by omega) hb
                · skip
                  refine V.iload d_F_about_73 rfl ?_
                  refine V.iret d_F_about_75 rfl (by omega) (by omega) ?_
                  exact hOk k z v hk rfl c_15 hv (by omega) c_57 hall hal2 (of_decide_eq_true c_70) R2 W2 Z2 T2 kn2 n2 (hJ1.tr hJ2) hI2
    · skip
      refine V.aload_n d_F_about_27 rfl ?_
      refine V.iconst_ (nI 1) d_F_about_28 (by decide +kernel) ?_
      refine V.callV1 d_F_about_29 k_F_97_F_error_FV (co_s sc_ob) (Nat.le_of_ble_eq_true rfl) (by omega) (by omega) (c_F_error (by decide) ?_)
      refine V.iret d_F_about_32 rfl (by omega) (by omega) ?_
      exact hE (by simp only [c_15, c_24, Bool.and_false, Bool.false_and, Bool.and_true, Bool.true_and])
