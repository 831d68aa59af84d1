def stT (f : Nat → Int32) (D : Nat → Int32) (N : Nat) : Bool := decide (∀ j, j < N → f j = D (50 + 7 * j + 6))
theorem AG.kp {N : Nat} {P : Nat → Prop} {D E : Nat → Int32} {p : Nat} (h : AG N P D E) : ∀ k, AG N P (kpD D p k) (kpD E p k) := by
  intro k
  induction k with
  | zero => exact h
  | succ k ih =>
    by_cases c : k = p
    · rw [c] at ih ⊢; rw [kpD_e, kpD_e]; exact ih
    · rw [kpD_t c, kpD_t c]; exact (ih.u).u
theorem kpD_n {D : Nat → Int32} {p j : Nat} (hp : p < 6) (hj : j < 8 ∨ 44 ≤ j) : ∀ k, k ≤ 6 → kpD D p k j = D j := by
  intro k
  induction k with
  | zero => intro _; rfl
  | succ k ih =>
    intro hk
    have ih := ih (by omega)
    by_cases c : k = p
    · rw [c] at ih ⊢; rw [kpD_e]; exact ih
    · rw [kpD_t c, pk_un (by omega), pk_un (by omega)]; exact ih
theorem or_tab : ∀ N, N + 1 ≤ 8 → N < 8 → ∀ k, k < 2 ^ N → nI k ||| (nI 1 <<< (nI N &&& 31)) = nI (k + 2 ^ N) := by
  intro N _ h
  rcases (show N = 0 ∨ N = 1 ∨ N = 2 ∨ N = 3 ∨ N = 4 ∨ N = 5 ∨ N = 6 ∨ N = 7 by omega) with rfl | rfl | rfl | rfl | rfl | rfl | rfl | rfl <;> decide +kernel
theorem stS_nat {D : Nat → Int32} {b : Bool} : ∀ N, N ≤ 8 → ∃ k, k < 2 ^ N ∧ stS D b N = nI k := by
  intro N
  induction N with
  | zero => intro _; exact ⟨0, by decide, rfl⟩
  | succ N ih =>
    intro hN
    obtain ⟨k, hk, e⟩ := ih (by omega)
    by_cases h : D (50 + 7 * N + 6) = bi b
    · refine ⟨k + 2 ^ N, by rw [Nat.pow_succ]; omega, ?_⟩
      rw [← stS_t h, e]
      exact or_tab N hN (by omega) k hk
    · refine ⟨k, by rw [Nat.pow_succ]; omega, ?_⟩
      rw [← stS_f h, e]
abbrev M_F_standsByTalk : MD := (⟨"FelledByNames", "standsByTalk", "(LFelledByNames$Sheet;II)Z"⟩, prog_1_method_52_code, 5, (some .boolean), fun _ => True)
theorem d_F_standsByTalk_0 : decode prog_1_method_52_code 0 = .ok (.aload_n 0, 1) := by decide +kernel
theorem d_F_standsByTalk_1 : decode prog_1_method_52_code 1 = .ok (.getfield 43, 3) := by decide +kernel
theorem d_F_standsByTalk_4 : decode prog_1_method_52_code 4 = .ok (.aload_n 0, 1) := by decide +kernel
theorem d_F_standsByTalk_5 : decode prog_1_method_52_code 5 = .ok (.getfield 39, 3) := by decide +kernel
theorem d_F_standsByTalk_8 : decode prog_1_method_52_code 8 = .ok (.invokevirtual 212, 3) := by decide +kernel
theorem d_F_standsByTalk_11 : decode prog_1_method_52_code 11 = .ok (.aload_n 0, 1) := by decide +kernel
theorem d_F_standsByTalk_12 : decode prog_1_method_52_code 12 = .ok (.getfield 43, 3) := by decide +kernel
theorem d_F_standsByTalk_15 : decode prog_1_method_52_code 15 = .ok (.bipush 63, 2) := by decide +kernel
theorem d_F_standsByTalk_17 : decode prog_1_method_52_code 17 = .ok (.iload_n 2, 1) := by decide +kernel
theorem d_F_standsByTalk_18 : decode prog_1_method_52_code 18 = .ok (.invokevirtual 326, 3) := by decide +kernel
theorem d_F_standsByTalk_21 : decode prog_1_method_52_code 21 = .ok (.aload_n 0, 1) := by decide +kernel
theorem d_F_standsByTalk_22 : decode prog_1_method_52_code 22 = .ok (.getfield 43, 3) := by decide +kernel
theorem d_F_standsByTalk_25 : decode prog_1_method_52_code 25 = .ok (.sipush 255, 3) := by decide +kernel
theorem d_F_standsByTalk_28 : decode prog_1_method_52_code 28 = .ok (.iload_n 3, 1) := by decide +kernel
theorem d_F_standsByTalk_29 : decode prog_1_method_52_code 29 = .ok (.invokevirtual 216, 3) := by decide +kernel
theorem d_F_standsByTalk_32 : decode prog_1_method_52_code 32 = .ok (.iconst 0, 1) := by decide +kernel
theorem d_F_standsByTalk_33 : decode prog_1_method_52_code 33 = .ok (.istore 4, 2) := by decide +kernel
theorem d_F_standsByTalk_35 : decode prog_1_method_52_code 35 = .ok (.iload 4, 2) := by decide +kernel
theorem d_F_standsByTalk_37 : decode prog_1_method_52_code 37 = .ok (.aload_n 0, 1) := by decide +kernel
theorem d_F_standsByTalk_38 : decode prog_1_method_52_code 38 = .ok (.getfield 43, 3) := by decide +kernel
theorem d_F_standsByTalk_41 : decode prog_1_method_52_code 41 = .ok (.getfield 121, 3) := by decide +kernel
theorem d_F_standsByTalk_44 : decode prog_1_method_52_code 44 = .ok (.if_icmp .ge 41, 3) := by decide +kernel
theorem d_F_standsByTalk_85 : decode prog_1_method_52_code 85 = .ok (.iconst 1, 1) := by decide +kernel
theorem d_F_standsByTalk_86 : decode prog_1_method_52_code 86 = .ok (.ireturn, 1) := by decide +kernel
theorem d_F_standsByTalk_47 : decode prog_1_method_52_code 47 = .ok (.aload_n 1, 1) := by decide +kernel
theorem d_F_standsByTalk_48 : decode prog_1_method_52_code 48 = .ok (.iload 4, 2) := by decide +kernel
theorem d_F_standsByTalk_50 : decode prog_1_method_52_code 50 = .ok (.invokevirtual 237, 3) := by decide +kernel
theorem d_F_standsByTalk_53 : decode prog_1_method_52_code 53 = .ok (.aload_n 0, 1) := by decide +kernel
theorem d_F_standsByTalk_54 : decode prog_1_method_52_code 54 = .ok (.getfield 43, 3) := by decide +kernel
theorem d_F_standsByTalk_57 : decode prog_1_method_52_code 57 = .ok (.getfield 145, 3) := by decide +kernel
theorem d_F_standsByTalk_60 : decode prog_1_method_52_code 60 = .ok (.iload 4, 2) := by decide +kernel
theorem d_F_standsByTalk_62 : decode prog_1_method_52_code 62 = .ok (.aaload, 1) := by decide +kernel
theorem d_F_standsByTalk_63 : decode prog_1_method_52_code 63 = .ok (.getfield 159, 3) := by decide +kernel
theorem d_F_standsByTalk_66 : decode prog_1_method_52_code 66 = .ok (.ifCond .eq 7, 3) := by decide +kernel
theorem d_F_standsByTalk_73 : decode prog_1_method_52_code 73 = .ok (.iconst 0, 1) := by decide +kernel
theorem d_F_standsByTalk_74 : decode prog_1_method_52_code 74 = .ok (.if_icmp .eq 5, 3) := by decide +kernel
theorem d_F_standsByTalk_79 : decode prog_1_method_52_code 79 = .ok (.iinc 4 1, 3) := by decide +kernel
theorem d_F_standsByTalk_82 : decode prog_1_method_52_code 82 = .ok (.goto (-47), 3) := by decide +kernel
theorem d_F_standsByTalk_77 : decode prog_1_method_52_code 77 = .ok (.iconst 0, 1) := by decide +kernel
theorem d_F_standsByTalk_78 : decode prog_1_method_52_code 78 = .ok (.ireturn, 1) := by decide +kernel
theorem d_F_standsByTalk_69 : decode prog_1_method_52_code 69 = .ok (.iconst 1, 1) := by decide +kernel
theorem d_F_standsByTalk_70 : decode prog_1_method_52_code 70 = .ok (.goto 4, 3) := by decide +kernel
set_option maxRecDepth 100000 in
theorem c_F_standsByTalk {N dy len0 len1 : Nat} {Wc0 Wc1 : Nat → Nat} {D0 : Nat → Int32} {k mi si B i : Nat} {v : Int32} {l : Launch} {d n : Nat} {R W Z : Nat → Nat → Int32} {T : Nat → Nat → Nat} {kn : Kn} {h0 : HP} {Q : QT} (hI : CI R W Z T kn n N dy Wc0 len0 Wc1 len1) (hh0 : ∀ a, ¬ (88 ≤ a ∧ a < 104) → h0 a = none) (hD0 : W 0 = D0) (he : (8 ≤ mi ∧ 64 ≤ si) ∨ AL W) (hv : ∃ q, q ≤ 9 ∧ v = nI q) (hk : k ≤ 60) (hi3 : i ≤ 3) (ez : Z (80 + 2 * i) 1 = nI (N + 1)) (hBe : B = (if 0 < k ∧ ¬ (stS D0 true N &&& nI 255) = 0 then bue len0 (imP D0 N).length kn else 0)) (hQ : ∀ (R1 W1 Z1 : Nat → Nat → Int32) (T1 : Nat → Nat → Nat) (kn1 : Kn) (n1 : Nat), JF R W Z R1 W1 Z1 → CI R1 W1 Z1 T1 kn1 n1 N dy Wc0 len0 Wc1 len1 → (∀ i, T1 0 i = T 0 i) → AL W1 → bue len0 (imP D0 N).length kn1 + B = bue len0 (imP D0 N).length kn → Q (some (.int (bi (stT (R (80 + 2 * i + 1)) (dsG (cvc Wc0 len0) (wvc Wc1 len1) N (fun i => (imP D0 N).getD i 0) (imP D0 N).length (tbI D0 (nI 63) v 6) k).1 N)))) n1 (co R1 W1 Z1 T1 kn1 h0)) : Ct l M_F_standsByTalk (d + 13) (mi + B) (si + 13300 * B) [.ref 0, .ref (80 + 2 * i), .int v, .int (nI k)] n (co R W Z T kn h0) Q := by
  refine Ct.of (fun _ => trivial) (by decide) (Nat.le_of_ble_eq_true rfl) ?_
  subst hD0
  obtain ⟨hN, e0, hdy, hd9, hB0, hB1, hx0, hx1, hT, hK⟩ := id hI
  have hpl : ∀ i, i < (imP (W 0) N).length → (fun i => (imP (W 0) N).getD i 0) i < 36 := fun i hi => by
    refine imP_lt hB0 N hN _ ?_
    show (imP (W 0) N).getD i 0 ∈ _
    rw [List.getD_eq_getElem?_getD, List.getElem?_eq_getElem hi]
    exact List.getElem_mem hi
  refine V.aload_n d_F_standsByTalk_0 rfl ?_
  refine V.get d_F_standsByTalk_1 f_F_43_F (co_s sc_ob) rfl ?_
  refine V.aload_n d_F_standsByTalk_4 rfl ?_
  refine V.get d_F_standsByTalk_5 f_F_39_F (co_s sc_ob) rfl ?_
  refine V.callV1 d_F_standsByTalk_8 k_F_212_World_imagine_WorldV (co_s (sc_wd (wb_ds 1 (by decide)).1)) (Nat.le_of_ble_eq_true rfl) (by omega) (by omega) (t_imagine (mi := mi) (si := si) hI hh0 he (fun Ra Wa Za Ta na hJa hIa hna hWa hHa hZa hPa hAa hUa => ?_))
  obtain ⟨-, -, -, -, -, hB1a, -, -, hTa2, hKa2⟩ := id hIa
  refine V.aload_n d_F_standsByTalk_11 rfl ?_
  refine V.get d_F_standsByTalk_12 f_F_43_F (co_s sc_ob) rfl ?_
  refine V.bipush_ (nI 63) d_F_standsByTalk_15 (by decide +kernel) ?_
  refine V.iload_n d_F_standsByTalk_17 rfl ?_
  refine V.callV2 d_F_standsByTalk_18 k_F_326_World_talkAbout_WorldV (co_s (sc_wd (wb_ds 1 (by decide)).1)) (Nat.le_of_ble_eq_true rfl) (by omega) (by omega) (c_World_talkAbout (w := 1) (by decide) hTa2 ?_)
  rw [hWa]
  have hBt : WB (tbI (cpW (W 1) (W 0)) (nI 63) v 6) := (hB1.cp hB0).tb hv 6 (Nat.le_refl _)
  have hAG : AG N (fun _ => True) (tbI (W 0) (nI 63) v 6) (tbI (cpW (W 1) (W 0)) (nI 63) v 6) := (AG.cp hN).tb 6
  have hkp : ∀ j, j < 6 ∨ (50 ≤ j ∧ j < 106) → (tbI (cpW (W 1) (W 0)) (nI 63) v 6) j = W 0 j := fun j hj => by rw [tbI_x (by omega) 6 (Nat.le_refl _)]; exact cpW_r (by omega)
  have eS0 : stS (tbI (cpW (W 1) (W 0)) (nI 63) v 6) true N = stS (W 0) true N := stS_c N (fun i hi => hkp _ (by omega))
  have hIt := hIa.md hBt
  have hAt := hAa.md (D' := (tbI (cpW (W 1) (W 0)) (nI 63) v 6)) (fun i hi => by rw [hkp _ (by omega), hWa]; exact (cpW_r (by omega)).symm)
  have e1t : uW Wa 1 (tbI (cpW (W 1) (W 0)) (nI 63) v 6) 1 0 = nI N := by rw [uW_s, hkp 0 (by omega)]; exact e0
  have edt : uW Wa 1 (tbI (cpW (W 1) (W 0)) (nI 63) v 6) 1 1 = nI dy := by rw [uW_s, hkp 1 (by omega)]; exact hdy
  refine V.aload_n d_F_standsByTalk_21 rfl ?_
  refine V.get d_F_standsByTalk_22 f_F_43_F (co_s sc_ob) rfl ?_
  refine V.sipush_ (nI 255) d_F_standsByTalk_25 (by decide +kernel) ?_
  refine V.iload_n d_F_standsByTalk_28 rfl ?_
  refine V.callV2 d_F_standsByTalk_29 k_F_216_World_passUntilDown_WorldV (co_s (sc_wd (wb_ds 1 (by decide)).1)) (Nat.le_of_ble_eq_true rfl) (by omega) (by omega) (t_pass (nn := k) (B := B) hIt e1t edt (by omega) hPa hZa hAt (fun q1 q2 => by rw [uW_s, eS0] at q2; rw [hBe, if_pos ⟨q1, q2⟩]; exact Nat.le_refl _) (by omega) (fun m Rb Wb Zb knb nb hmb hsb hab hJb hIb hnb hWb hrb hzb hhb hAb hbb hPb => ?_))
  rw [uW_s] at hsb hWb hbb hrb hzb hhb
  refine V.iconst_ (nI 0) d_F_standsByTalk_32 (by decide +kernel) ?_
  refine V.istore d_F_standsByTalk_33 (by decide) ?_
  obtain ⟨-, e0b, -, -, -, hB1b, -, -, hTb, -⟩ := id hIb
  have e1b : Wb 1 0 = nI N := by rw [hWb, (dsG_i hN hBt hpl m).2.1, hkp 0 (by omega)]; exact e0
  have hbe : bue len0 (imP (W 0) N).length knb + B = bue len0 (imP (W 0) N).length kn := by
    rw [hBe]
    rw [eS0] at hbb
    by_cases z : 0 < k ∧ ¬ (stS (W 0) true N &&& nI 255) = 0
    · rw [if_pos z, hbb.1 z, Nat.zero_add]
    · rw [if_neg z, hbb.2 z, Nat.add_zero]
  obtain ⟨hAGk, hALk⟩ := dsG_ag (cv := cvc Wc0 len0) (wv := wvc Wc1 len1) hpl hAG ((hB0.tb hv 6 (Nat.le_refl _)).tb5 hN) k
  obtain ⟨-, q2, -⟩ := pud_255 (cv := cvc Wc0 len0) (wv := wvc Wc1 len1) (D := (tbI (cpW (W 1) (W 0)) (nI 63) v 6)) hN hpl hmb hsb (fun _ => 0)
  have hJq : JF R W Z Rb Wb Zb := hJa.tr (JF.md.tr hJb)
  have ezb : Zb (80 + 2 * i) 1 = nI (N + 1) := by rw [hJq.2.1 _ _ (by omega) (by omega)]; exact ez
  have eRb : Rb (80 + 2 * i + 1) = R (80 + 2 * i + 1) := hJq.1 _ (by omega) (by omega) (by omega)
  have eSt : ∀ u, u < N → Wb 1 (50 + 7 * u + 6) = (dsG (cvc Wc0 len0) (wvc Wc1 len1) N (fun i => (imP (W 0) N).getD i 0) (imP (W 0) N).length (tbI (W 0) (nI 63) v 6) k).1 (50 + 7 * u + 6) := fun u hu => by rw [hWb, ← q2 _ (by omega) (by omega)]; exact hAGk.tr hu (by omega)
  refine V.lc (ls' := [(0, .ref 0), (1, .ref (80 + 2 * i)), (4, .int (nI 0))]) rfl ?_
  refine up_to (G := fun u => (∀ q, q < u → R (80 + 2 * i + 1) q = (dsG (cvc Wc0 len0) (wvc Wc1 len1) N (fun i => (imP (W 0) N).getD i 0) (imP (W 0) N).length (tbI (W 0) (nI 63) v 6) k).1 (50 + 7 * q + 6)) → V l M_F_standsByTalk (d + 13) (mi + B) (si + 13300 * B) 35 [(0, .ref 0), (1, .ref (80 + 2 * i)), (4, .int (nI u))] [] nb (co Rb Wb Zb Ta knb h0) (0 + mi + 0 + B) (0 + si + 0 + 13300 * B) Q) (N) ?_ (fun u hu hn => ?_) 0 (by omega) (fun q hq => absurd hq (by omega))
  · skip
    intro hall
    refine V.iload d_F_standsByTalk_35 rfl ?_
    refine V.aload_n d_F_standsByTalk_37 rfl ?_
    refine V.get d_F_standsByTalk_38 f_F_43_F (co_s sc_ob) rfl ?_
    refine V.get d_F_standsByTalk_41 f_F_121_World (co_s (sc_wd (wb_ds 1 (by decide)).1)) rfl ?_
    refine V.top (y := nI N) (e1b) ?_
    refine V.geN (tgt := 85) d_F_standsByTalk_44 (by decide) (by omega) (by omega) (fun c_44 => ?_) (fun c_44 => ?_)
    · skip
      refine V.iconst_ (nI 1) d_F_standsByTalk_85 (by decide +kernel) ?_
      refine V.zret d_F_standsByTalk_86 rfl rfl (by omega) (by omega) ?_
      have h := hQ Rb Wb Zb Ta knb nb hJq hIb (fun i => hUa 0 i (by decide)) hAb hbe
      unfold stT at h
      rw [decide_eq_true hall] at h
      exact h
    · skip
      exact absurd c_44 (by omega)
  · skip
    intro hall
    have hu8 : u < 8 := by omega
    refine V.iload d_F_standsByTalk_35 rfl ?_
    refine V.aload_n d_F_standsByTalk_37 rfl ?_
    refine V.get d_F_standsByTalk_38 f_F_43_F (co_s sc_ob) rfl ?_
    refine V.get d_F_standsByTalk_41 f_F_121_World (co_s (sc_wd (wb_ds 1 (by decide)).1)) rfl ?_
    refine V.top (y := nI N) (e1b) ?_
    refine V.geN (tgt := 85) d_F_standsByTalk_44 (by decide) (by omega) (by omega) (fun c_44 => ?_) (fun c_44 => ?_)
    · skip
      exact absurd c_44 (by omega)
    · skip
      refine V.aload_n d_F_standsByTalk_47 rfl ?_
      refine V.iload d_F_standsByTalk_48 rfl ?_
      refine V.callU (vs := [_]) d_F_standsByTalk_50 k_F_237_Row_get_SheetU (co_s (sc_sh (sh_ds i (by omega)).1)) rfl rfl (Nat.le_of_ble_eq_true rfl) (by omega) (by omega) (c_Sheet_get (a := 80 + 2 * i) (sz := N + 1) (sh_ds i (by omega)).1 (sh_ds i (by omega)).2 ezb (by omega) ?_)
      rw [rgt_in (by omega) (by omega)]
      refine V.aload_n d_F_standsByTalk_53 rfl ?_
      refine V.get d_F_standsByTalk_54 f_F_43_F (co_s sc_ob) rfl ?_
      refine V.get d_F_standsByTalk_57 f_F_145_World (co_s (sc_wd (wb_ds 1 (by decide)).1)) rfl ?_
      refine V.iload d_F_standsByTalk_60 rfl ?_
      refine V.aald d_F_standsByTalk_62 (Or.inl rfl) (co_s (sc_tr (wb_ds 1 (by decide)).2.2.2.1)) (vp_in_nI (by omega) (by omega)) (by rw [icl (by omega)]; exact if_pos (by omega)) ?_
      refine V.get d_F_standsByTalk_63 (ft_F_159 _ (hB1b.kd hu8)) (co_t hTb (by decide) hu8) rfl ?_
      refine V.if_eq (tgt := 73) d_F_standsByTalk_66 (by decide) (fun c_66 => ?_) (fun c_66 => ?_)
      · skip
        refine V.iconst_ (nI 0) d_F_standsByTalk_73 (by decide +kernel) ?_
        refine V.icmp_eq (tgt := 79) d_F_standsByTalk_74 (by decide) (fun c_74 => ?_) (fun c_74 => ?_)
        · skip
          refine V.incN d_F_standsByTalk_79 rfl (by decide) ?_
          refine V.goto (tgt := 35) d_F_standsByTalk_82 (by decide) ?_
          refine V.lc rfl (hn (fun q hq => ?_))
          by_cases e : q = u
          · subst e
            rw [← eSt q hu]
            rw [eRb] at c_74
            obtain ⟨k6, b6, e6⟩ := hB1b.k6 hu8
            rw [e6] at c_66 ⊢
            rcases (show k6 = 0 ∨ k6 = 1 by omega) with rfl | rfl
            · first | exact c_74 | exact absurd rfl c_66
            · first | exact c_74 | exact absurd c_66 (by decide)
          · exact hall q (by omega)
        · skip
          refine V.iconst_ (nI 0) d_F_standsByTalk_77 (by decide +kernel) ?_
          refine V.zret d_F_standsByTalk_78 rfl rfl (by omega) (by omega) ?_
          have h := hQ Rb Wb Zb Ta knb nb hJq hIb (fun i => hUa 0 i (by decide)) hAb hbe
          unfold stT at h
          rw [decide_eq_false (fun z => ?_)] at h
          · exact h
          · have zu := z u hu
            rw [← eSt u hu] at zu
            rw [eRb] at c_74
            obtain ⟨k6, b6, e6⟩ := hB1b.k6 hu8
            rw [e6] at c_66 zu
            rcases (show k6 = 0 ∨ k6 = 1 by omega) with rfl | rfl
            · first | exact c_74 zu | exact c_66 rfl
            · first | exact c_74 zu | exact absurd c_66 (by decide)
      · skip
        refine V.iconst_ (nI 1) d_F_standsByTalk_69 (by decide +kernel) ?_
        refine V.goto (tgt := 74) d_F_standsByTalk_70 (by decide) ?_
        refine V.icmp_eq (tgt := 79) d_F_standsByTalk_74 (by decide) (fun c_74 => ?_) (fun c_74 => ?_)
        · skip
          refine V.incN d_F_standsByTalk_79 rfl (by decide) ?_
          refine V.goto (tgt := 35) d_F_standsByTalk_82 (by decide) ?_
          refine V.lc rfl (hn (fun q hq => ?_))
          by_cases e : q = u
          · subst e
            rw [← eSt q hu]
            rw [eRb] at c_74
            obtain ⟨k6, b6, e6⟩ := hB1b.k6 hu8
            rw [e6] at c_66 ⊢
            rcases (show k6 = 0 ∨ k6 = 1 by omega) with rfl | rfl
            · first | exact c_74 | exact absurd rfl c_66
            · first | exact c_74 | exact absurd c_66 (by decide)
          · exact hall q (by omega)
        · skip
          refine V.iconst_ (nI 0) d_F_standsByTalk_77 (by decide +kernel) ?_
          refine V.zret d_F_standsByTalk_78 rfl rfl (by omega) (by omega) ?_
          have h := hQ Rb Wb Zb Ta knb nb hJq hIb (fun i => hUa 0 i (by decide)) hAb hbe
          unfold stT at h
          rw [decide_eq_false (fun z => ?_)] at h
          · exact h
          · have zu := z u hu
            rw [← eSt u hu] at zu
            rw [eRb] at c_74
            obtain ⟨k6, b6, e6⟩ := hB1b.k6 hu8
            rw [e6] at c_66 zu
            rcases (show k6 = 0 ∨ k6 = 1 by omega) with rfl | rfl
            · first | exact c_74 zu | exact c_66 rfl
            · first | exact c_74 zu | exact absurd c_66 (by decide)
def tdB (P : Nat → Bool) : Nat → Nat × Int32 := fun k => itr (fun u ml => if P (9 - u) = true then (ml.1 + 1, nI (9 - u)) else ml) k (0, -1)
theorem tdB_t {P : Nat → Bool} {u : Nat} (h : P (9 - u) = true) : tdB P (u + 1) = ((tdB P u).1 + 1, nI (9 - u)) := if_pos h
theorem tdB_f {P : Nat → Bool} {u : Nat} (h : P (9 - u) = false) : tdB P (u + 1) = tdB P u := if_neg (by rw [h]; decide)
theorem tpv_n {c : Nat} (h : c ≠ 0) : tpv c = nI (c - 1) := if_neg h
abbrev M_F_talked : MD := (⟨"FelledByNames", "talked", "(II)I"⟩, prog_1_method_22_code, 8, (some .int), fun _ => True)
theorem d_F_talked_0 : decode prog_1_method_22_code 0 = .ok (.iload_n 1, 1) := by decide +kernel
theorem d_F_talked_1 : decode prog_1_method_22_code 1 = .ok (.invokestatic 233, 3) := by decide +kernel
theorem d_F_talked_4 : decode prog_1_method_22_code 4 = .ok (.ifCond .eq 11, 3) := by decide +kernel
theorem d_F_talked_15 : decode prog_1_method_22_code 15 = .ok (.aload_n 0, 1) := by decide +kernel
theorem d_F_talked_16 : decode prog_1_method_22_code 16 = .ok (.iconst 1, 1) := by decide +kernel
theorem d_F_talked_17 : decode prog_1_method_22_code 17 = .ok (.invokevirtual 97, 3) := by decide +kernel
theorem d_F_talked_20 : decode prog_1_method_22_code 20 = .ok (.ireturn, 1) := by decide +kernel
theorem d_F_talked_7 : decode prog_1_method_22_code 7 = .ok (.iload_n 2, 1) := by decide +kernel
theorem d_F_talked_8 : decode prog_1_method_22_code 8 = .ok (.iconst 1, 1) := by decide +kernel
theorem d_F_talked_9 : decode prog_1_method_22_code 9 = .ok (.invokestatic 94, 3) := by decide +kernel
theorem d_F_talked_12 : decode prog_1_method_22_code 12 = .ok (.ifCond .ne 9, 3) := by decide +kernel
theorem d_F_talked_21 : decode prog_1_method_22_code 21 = .ok (.aload_n 0, 1) := by decide +kernel
theorem d_F_talked_22 : decode prog_1_method_22_code 22 = .ok (.getfield 54, 3) := by decide +kernel
theorem d_F_talked_25 : decode prog_1_method_22_code 25 = .ok (.iload_n 1, 1) := by decide +kernel
theorem d_F_talked_26 : decode prog_1_method_22_code 26 = .ok (.aaload, 1) := by decide +kernel
theorem d_F_talked_27 : decode prog_1_method_22_code 27 = .ok (.astore_n 3, 1) := by decide +kernel
theorem d_F_talked_28 : decode prog_1_method_22_code 28 = .ok (.aload_n 3, 1) := by decide +kernel
theorem d_F_talked_29 : decode prog_1_method_22_code 29 = .ok (.aload_n 3, 1) := by decide +kernel
theorem d_F_talked_30 : decode prog_1_method_22_code 30 = .ok (.getfield 236, 3) := by decide +kernel
theorem d_F_talked_33 : decode prog_1_method_22_code 33 = .ok (.iconst 1, 1) := by decide +kernel
theorem d_F_talked_34 : decode prog_1_method_22_code 34 = .ok (.isub, 1) := by decide +kernel
theorem d_F_talked_35 : decode prog_1_method_22_code 35 = .ok (.invokevirtual 237, 3) := by decide +kernel
theorem d_F_talked_38 : decode prog_1_method_22_code 38 = .ok (.istore 4, 2) := by decide +kernel
theorem d_F_talked_40 : decode prog_1_method_22_code 40 = .ok (.aload_n 3, 1) := by decide +kernel
theorem d_F_talked_41 : decode prog_1_method_22_code 41 = .ok (.invokevirtual 240, 3) := by decide +kernel
theorem d_F_talked_44 : decode prog_1_method_22_code 44 = .ok (.ifCond .ne 29, 3) := by decide +kernel
theorem d_F_talked_73 : decode prog_1_method_22_code 73 = .ok (.aload_n 0, 1) := by decide +kernel
theorem d_F_talked_74 : decode prog_1_method_22_code 74 = .ok (.iconst 2, 1) := by decide +kernel
theorem d_F_talked_75 : decode prog_1_method_22_code 75 = .ok (.invokevirtual 97, 3) := by decide +kernel
theorem d_F_talked_78 : decode prog_1_method_22_code 78 = .ok (.ireturn, 1) := by decide +kernel
theorem d_F_talked_47 : decode prog_1_method_22_code 47 = .ok (.aload_n 3, 1) := by decide +kernel
theorem d_F_talked_48 : decode prog_1_method_22_code 48 = .ok (.getfield 236, 3) := by decide +kernel
theorem d_F_talked_51 : decode prog_1_method_22_code 51 = .ok (.aload_n 0, 1) := by decide +kernel
theorem d_F_talked_52 : decode prog_1_method_22_code 52 = .ok (.getfield 39, 3) := by decide +kernel
theorem d_F_talked_55 : decode prog_1_method_22_code 55 = .ok (.getfield 121, 3) := by decide +kernel
theorem d_F_talked_58 : decode prog_1_method_22_code 58 = .ok (.iconst 1, 1) := by decide +kernel
theorem d_F_talked_59 : decode prog_1_method_22_code 59 = .ok (.iadd, 1) := by decide +kernel
theorem d_F_talked_60 : decode prog_1_method_22_code 60 = .ok (.if_icmp .ne 13, 3) := by decide +kernel
theorem d_F_talked_63 : decode prog_1_method_22_code 63 = .ok (.iload 4, 2) := by decide +kernel
theorem d_F_talked_65 : decode prog_1_method_22_code 65 = .ok (.bipush 30, 2) := by decide +kernel
theorem d_F_talked_67 : decode prog_1_method_22_code 67 = .ok (.invokestatic 94, 3) := by decide +kernel
theorem d_F_talked_70 : decode prog_1_method_22_code 70 = .ok (.ifCond .ne 9, 3) := by decide +kernel
theorem d_F_talked_79 : decode prog_1_method_22_code 79 = .ok (.iconst 0, 1) := by decide +kernel
theorem d_F_talked_80 : decode prog_1_method_22_code 80 = .ok (.istore 5, 2) := by decide +kernel
theorem d_F_talked_82 : decode prog_1_method_22_code 82 = .ok (.iconst (-1), 1) := by decide +kernel
theorem d_F_talked_83 : decode prog_1_method_22_code 83 = .ok (.istore 6, 2) := by decide +kernel
theorem d_F_talked_85 : decode prog_1_method_22_code 85 = .ok (.bipush 9, 2) := by decide +kernel
theorem d_F_talked_87 : decode prog_1_method_22_code 87 = .ok (.istore 7, 2) := by decide +kernel
theorem d_F_talked_89 : decode prog_1_method_22_code 89 = .ok (.iload 7, 2) := by decide +kernel
theorem d_F_talked_91 : decode prog_1_method_22_code 91 = .ok (.ifCond .lt 28, 3) := by decide +kernel
theorem d_F_talked_119 : decode prog_1_method_22_code 119 = .ok (.iload_n 2, 1) := by decide +kernel
theorem d_F_talked_120 : decode prog_1_method_22_code 120 = .ok (.ifCond .ne 6, 3) := by decide +kernel
theorem d_F_talked_126 : decode prog_1_method_22_code 126 = .ok (.iload 6, 2) := by decide +kernel
theorem d_F_talked_128 : decode prog_1_method_22_code 128 = .ok (.ifCond .ge 11, 3) := by decide +kernel
theorem d_F_talked_139 : decode prog_1_method_22_code 139 = .ok (.iload 6, 2) := by decide +kernel
theorem d_F_talked_141 : decode prog_1_method_22_code 141 = .ok (.ireturn, 1) := by decide +kernel
theorem d_F_talked_131 : decode prog_1_method_22_code 131 = .ok (.aload_n 0, 1) := by decide +kernel
theorem d_F_talked_132 : decode prog_1_method_22_code 132 = .ok (.iconst 2, 1) := by decide +kernel
theorem d_F_talked_133 : decode prog_1_method_22_code 133 = .ok (.invokevirtual 97, 3) := by decide +kernel
theorem d_F_talked_136 : decode prog_1_method_22_code 136 = .ok (.goto 5, 3) := by decide +kernel
theorem d_F_talked_123 : decode prog_1_method_22_code 123 = .ok (.iload 5, 2) := by decide +kernel
theorem d_F_talked_125 : decode prog_1_method_22_code 125 = .ok (.ireturn, 1) := by decide +kernel
theorem d_F_talked_94 : decode prog_1_method_22_code 94 = .ok (.aload_n 0, 1) := by decide +kernel
theorem d_F_talked_95 : decode prog_1_method_22_code 95 = .ok (.aload_n 3, 1) := by decide +kernel
theorem d_F_talked_96 : decode prog_1_method_22_code 96 = .ok (.iload 7, 2) := by decide +kernel
theorem d_F_talked_98 : decode prog_1_method_22_code 98 = .ok (.iload 4, 2) := by decide +kernel
theorem d_F_talked_100 : decode prog_1_method_22_code 100 = .ok (.invokevirtual 244, 3) := by decide +kernel
theorem kB_F_standsByTalk : kB M_F_standsByTalk 3 := ⟨tm 1 (by decide +kernel) rfl, tm 847 (by decide +kernel) rfl, ⟨by decide, by decide, by decide +kernel⟩, by decide⟩
theorem k_F_244_F_standsByTalk_FV : kV "FelledByNames" 244 0 M_F_standsByTalk 3 := ⟨kB_F_standsByTalk, tm 844 (by decide +kernel) rfl, tm 846 (by decide +kernel) rfl, tp 12 (by decide +kernel) rfl, _, rfl, rfl⟩
theorem d_F_talked_103 : decode prog_1_method_22_code 103 = .ok (.ifCond .eq 10, 3) := by decide +kernel
theorem d_F_talked_113 : decode prog_1_method_22_code 113 = .ok (.iinc 7 (-1), 3) := by decide +kernel
theorem d_F_talked_116 : decode prog_1_method_22_code 116 = .ok (.goto (-27), 3) := by decide +kernel
theorem d_F_talked_106 : decode prog_1_method_22_code 106 = .ok (.iinc 5 1, 3) := by decide +kernel
theorem d_F_talked_109 : decode prog_1_method_22_code 109 = .ok (.iload 7, 2) := by decide +kernel
theorem d_F_talked_111 : decode prog_1_method_22_code 111 = .ok (.istore 6, 2) := by decide +kernel
set_option maxRecDepth 100000 in
theorem c_F_talked {N dy len0 len1 : Nat} {Wc0 Wc1 : Nat → Nat} {x y : Int32} {l : Launch} {d n : Nat} {R W Z : Nat → Nat → Int32} {T : Nat → Nat → Nat} {kn : Kn} {h0 : HP} {Q : QT} (hI : CI R W Z T kn n N dy Wc0 len0 Wc1 len1) (hh0 : ∀ a, ¬ (88 ≤ a ∧ a < 104) → h0 a = none) (hSz : ∀ i, i < 4 → ∃ k, k ≤ 40 ∧ Z (80 + 2 * i) 1 = nI k) (hE : (wi x (nI 0) (nI 3) && wi y (nI 0) (nI 1)) = false → Q (some (.int (-1000000000 - nI 1))) n (co (uA R 54 (upd (R 54) 1 (R 54 1 + nI 1))) W Z T kn h0)) (hNo : ∀ i z sz, i ≤ 3 → z ≤ 1 → x = nI i → y = nI z → Z (80 + 2 * i) 1 = nI sz → sz ≤ 40 → (Z (80 + 2 * i) 2 = 0 ∨ sz ≠ N + 1 ∨ (sz = N + 1 ∧ wi (R (80 + 2 * i + 1) N) (nI 0) (nI 30) = false)) → Q (some (.int (-1000000000 - nI 2))) n (co (uA R 54 (upd (R 54) 2 (R 54 2 + nI 1))) W Z T kn h0)) (hN2 : ∀ i z k, i ≤ 3 → z ≤ 1 → x = nI i → y = nI z → ¬ Z (80 + 2 * i) 2 = 0 → Z (80 + 2 * i) 1 = nI (N + 1) → R (80 + 2 * i + 1) N = nI k → k ≤ 30 → z = 1 → (tdB (fun v => stT (R (80 + 2 * i + 1)) (dsG (cvc Wc0 len0) (wvc Wc1 len1) N (fun i => (imP (W 0) N).getD i 0) (imP (W 0) N).length (tbI (W 0) (nI 63) (nI v) 6) k).1 N) 10).2 < 0 → ∀ (R1 W1 Z1 : Nat → Nat → Int32) (T1 : Nat → Nat → Nat) (kn1 : Kn) (n1 : Nat), JF R W Z R1 W1 Z1 → CI R1 W1 Z1 T1 kn1 n1 N dy Wc0 len0 Wc1 len1 → Q (some (.int (-1000000000 - nI 2))) n1 (co (uA R1 54 (upd (R1 54) 2 (R1 54 2 + nI 1))) W1 Z1 T1 kn1 h0)) (hOk : ∀ i z k, i ≤ 3 → z ≤ 1 → x = nI i → y = nI z → ¬ Z (80 + 2 * i) 2 = 0 → Z (80 + 2 * i) 1 = nI (N + 1) → R (80 + 2 * i + 1) N = nI k → k ≤ 30 → (z = 0 ∨ ¬ (tdB (fun v => stT (R (80 + 2 * i + 1)) (dsG (cvc Wc0 len0) (wvc Wc1 len1) N (fun i => (imP (W 0) N).getD i 0) (imP (W 0) N).length (tbI (W 0) (nI 63) (nI v) 6) k).1 N) 10).2 < 0) → ∀ (R1 W1 Z1 : Nat → Nat → Int32) (T1 : Nat → Nat → Nat) (kn1 : Kn) (n1 : Nat), JF R W Z R1 W1 Z1 → CI R1 W1 Z1 T1 kn1 n1 N dy Wc0 len0 Wc1 len1 → Q (some (.int (if z = 0 then nI (tdB (fun v => stT (R (80 + 2 * i + 1)) (dsG (cvc Wc0 len0) (wvc Wc1 len1) N (fun i => (imP (W 0) N).getD i 0) (imP (W 0) N).length (tbI (W 0) (nI 63) (nI v) 6) k).1 N) 10).1 else (tdB (fun v => stT (R (80 + 2 * i + 1)) (dsG (cvc Wc0 len0) (wvc Wc1 len1) N (fun i => (imP (W 0) N).getD i 0) (imP (W 0) N).length (tbI (W 0) (nI 63) (nI v) 6) k).1 N) 10).2))) n1 (co R1 W1 Z1 T1 kn1 h0)) : Ct l M_F_talked (d + 14) 9 13364 [.ref 0, .int x, .int y] n (co R W Z T kn h0) Q := by
  refine Ct.of (fun _ => trivial) (by decide) (Nat.le_of_ble_eq_true rfl) ?_
  obtain ⟨hN, e0, hdy, hd9, hB0, hB1, hx0, hx1, hT, hK⟩ := id hI
  have hpl : ∀ i, i < (imP (W 0) N).length → (fun i => (imP (W 0) N).getD i 0) i < 36 := fun i hi => by
    refine imP_lt hB0 N hN _ ?_
    show (imP (W 0) N).getD i 0 ∈ _
    rw [List.getD_eq_getElem?_getD, List.getElem?_eq_getElem hi]
    exact List.getElem_mem hi
  refine V.iload_n d_F_talked_0 rfl ?_
  refine V.callS1 d_F_talked_1 k_F_233_F_isSheetS (Nat.le_of_ble_eq_true rfl) (by omega) (by omega) (c_F_isSheet ?_)
  refine V.ifeqB (tgt := 15) d_F_talked_4 (by decide) (fun c_4 => ?_) (fun c_4 => ?_)
  · skip
    refine V.aload_n d_F_talked_15 rfl ?_
    refine V.iconst_ (nI 1) d_F_talked_16 (by decide +kernel) ?_
    refine V.callV1 d_F_talked_17 k_F_97_F_error_FV (co_s sc_ob) (Nat.le_of_ble_eq_true rfl) (by omega) (by omega) (c_F_error (by decide) ?_)
    refine V.iret d_F_talked_20 rfl (by omega) (by omega) ?_
    exact hE (by simp only [c_4, Bool.and_false, Bool.false_and, Bool.and_true, Bool.true_and])
  · skip
    refine V.iload_n d_F_talked_7 rfl ?_
    refine V.iconst_ (nI 1) d_F_talked_8 (by decide +kernel) ?_
    refine V.callS2 d_F_talked_9 k_F_94_F_withinS (Nat.le_of_ble_eq_true rfl) (by omega) (by omega) (c_F_within ?_)
    refine V.ifneB (tgt := 21) d_F_talked_12 (by decide) (fun c_12 => ?_) (fun c_12 => ?_)
    · skip
      obtain ⟨i, hi, rfl⟩ := wi_nat (k := 3) (by decide) c_4
      obtain ⟨sz, hsz, esz⟩ := hSz i (by omega)
      obtain ⟨z, hz, rfl⟩ := wi_nat (k := 1) (by decide) c_12
      refine V.aload_n d_F_talked_21 rfl ?_
      refine V.get d_F_talked_22 f_F_54_F (co_s sc_ob) rfl ?_
      refine V.iload_n d_F_talked_25 rfl ?_
      refine V.aald (b := 80 + 2 * i) d_F_talked_26 (Or.inr rfl) (co_s sc_ss) (vp_in_nI (by omega) (by omega)) (by rw [icl (by omega)]; exact if_pos (by omega)) ?_
      refine V.astore_n d_F_talked_27 (by decide) ?_
      refine V.aload_n d_F_talked_28 rfl ?_
      refine V.aload_n d_F_talked_29 rfl ?_
      refine V.get d_F_talked_30 f_F_236_Sheet (co_s (sc_sh (sh_ds i (by omega)).1)) rfl ?_
      refine V.top (y := nI sz) (esz) ?_
      refine V.iconst_ (nI 1) d_F_talked_33 (by decide +kernel) ?_
      refine V.isub d_F_talked_34 ?_
      skip
      refine V.callU (vs := [_]) d_F_talked_35 k_F_237_Row_get_SheetU (co_s (sc_sh (sh_ds i (by omega)).1)) rfl rfl (Nat.le_of_ble_eq_true rfl) (by omega) (by omega) (c_Sheet_get (a := 80 + 2 * i) (sz := sz) (sh_ds i (by omega)).1 (sh_ds i (by omega)).2 esz hsz ?_)
      refine V.istore d_F_talked_38 (by decide) ?_
      refine V.aload_n d_F_talked_40 rfl ?_
      refine V.callV0 d_F_talked_41 k_F_240_Sheet_isMissing_SheetV (co_s (sc_sh (sh_ds i (by omega)).1)) (Nat.le_of_ble_eq_true rfl) (by omega) (by omega) (c_Sheet_isMissing (sh_ds i (by omega)).1 ?_)
      refine V.ifneB (tgt := 73) d_F_talked_44 (by decide) (fun c_44 => ?_) (fun c_44 => ?_)
      · skip
        refine V.aload_n d_F_talked_73 rfl ?_
        refine V.iconst_ (nI 2) d_F_talked_74 (by decide +kernel) ?_
        refine V.callV1 d_F_talked_75 k_F_97_F_error_FV (co_s sc_ob) (Nat.le_of_ble_eq_true rfl) (by omega) (by omega) (c_F_error (by decide) ?_)
        refine V.iret d_F_talked_78 rfl (by omega) (by omega) ?_
        exact hNo i z sz hi hz rfl rfl esz hsz (Or.inl (of_decide_eq_true c_44))
      · skip
        refine V.aload_n d_F_talked_47 rfl ?_
        refine V.get d_F_talked_48 f_F_236_Sheet (co_s (sc_sh (sh_ds i (by omega)).1)) rfl ?_
        refine V.top (y := nI sz) (esz) ?_
        refine V.aload_n d_F_talked_51 rfl ?_
        refine V.get d_F_talked_52 f_F_39_F (co_s sc_ob) rfl ?_
        refine V.get d_F_talked_55 f_F_121_World (co_s (sc_wd (wb_ds 0 (by decide)).1)) rfl ?_
        refine V.top (y := nI N) (e0) ?_
        refine V.iconst_ (nI 1) d_F_talked_58 (by decide +kernel) ?_
        refine V.addN d_F_talked_59 ?_
        refine V.neN (tgt := 73) d_F_talked_60 (by decide) (by omega) (by omega) (fun c_60 => ?_) (fun c_60 => ?_)
        · skip
          refine V.aload_n d_F_talked_73 rfl ?_
          refine V.iconst_ (nI 2) d_F_talked_74 (by decide +kernel) ?_
          refine V.callV1 d_F_talked_75 k_F_97_F_error_FV (co_s sc_ob) (Nat.le_of_ble_eq_true rfl) (by omega) (by omega) (c_F_error (by decide) ?_)
          refine V.iret d_F_talked_78 rfl (by omega) (by omega) ?_
          exact hNo i z sz hi hz rfl rfl esz hsz (Or.inr (Or.inl c_60))
        · skip
          refine V.iload d_F_talked_63 rfl ?_
          refine V.bipush_ (nI 30) d_F_talked_65 (by decide +kernel) ?_
          refine V.callS2 d_F_talked_67 k_F_94_F_withinS (Nat.le_of_ble_eq_true rfl) (by omega) (by omega) (c_F_within ?_)
          refine V.ifneB (tgt := 79) d_F_talked_70 (by decide) (fun c_70 => ?_) (fun c_70 => ?_)
          · skip
            obtain rfl : sz = N + 1 := c_60
            have elast : (rgt (R (80 + 2 * i + 1)) (nI (N + 1)) (nI (N + 1) - nI 1)) = R (80 + 2 * i + 1) N := by rw [pk_sub (by omega), Nat.add_sub_cancel]; exact rgt_in (by omega) (by omega)
            rw [elast] at c_70
            rw [elast]
            obtain ⟨k, hk, ek⟩ := wi_nat (k := 30) (by decide) c_70
            rw [ek]
            refine V.iconst_ (nI 0) d_F_talked_79 (by decide +kernel) ?_
            refine V.istore d_F_talked_80 (by decide) ?_
            refine V.iconst_ (-1) d_F_talked_82 (by decide +kernel) ?_
            refine V.istore d_F_talked_83 (by decide) ?_
            refine V.bipush_ (nI 9) d_F_talked_85 (by decide +kernel) ?_
            refine V.istore d_F_talked_87 (by decide) ?_
            refine V.lc (ls' := [(0, .ref 0), (2, .int (nI z)), (3, .ref (80 + 2 * i)), (4, .int (nI k)), (5, .int (nI (tdB (fun v => stT (R (80 + 2 * i + 1)) (dsG (cvc Wc0 len0) (wvc Wc1 len1) N (fun i => (imP (W 0) N).getD i 0) (imP (W 0) N).length (tbI (W 0) (nI 63) (nI v) 6) k).1 N) 0).1)), (6, .int (tdB (fun v => stT (R (80 + 2 * i + 1)) (dsG (cvc Wc0 len0) (wvc Wc1 len1) N (fun i => (imP (W 0) N).getD i 0) (imP (W 0) N).length (tbI (W 0) (nI 63) (nI v) 6) k).1 N) 0).2), (7, .int (tpv (10 - 0)))]) rfl ?_
            refine V.lc (ls' := [(0, .ref 0), (2, .int (nI z)), (3, .ref (80 + 2 * i)), (4, .int (nI k)), (5, .int (nI (tdB (fun v => stT (R (80 + 2 * i + 1)) (dsG (cvc Wc0 len0) (wvc Wc1 len1) N (fun i => (imP (W 0) N).getD i 0) (imP (W 0) N).length (tbI (W 0) (nI 63) (nI v) 6) k).1 N) 0).1)), (6, .int (tdB (fun v => stT (R (80 + 2 * i + 1)) (dsG (cvc Wc0 len0) (wvc Wc1 len1) N (fun i => (imP (W 0) N).getD i 0) (imP (W 0) N).length (tbI (W 0) (nI 63) (nI v) 6) k).1 N) 0).2), (7, .int (tpv (10 - 0)))]) rfl ?_
            refine up_to (G := fun u => ∀ (R1 W1 Z1 : Nat → Nat → Int32) (T1 : Nat → Nat → Nat) (kn1 : Kn) (n1 c s : Nat), JF R W Z R1 W1 Z1 → CI R1 W1 Z1 T1 kn1 n1 N dy Wc0 len0 Wc1 len1 → (∃ mi si, ((8 ≤ mi ∧ 64 ≤ si) ∨ AL W1) ∧ c + mi + bue len0 (imP (W 0) N).length kn1 ≤ 9 ∧ s + si + 13300 * bue len0 (imP (W 0) N).length kn1 ≤ 13364) → V l M_F_talked (d + 14) 9 13364 89 [(0, .ref 0), (2, .int (nI z)), (3, .ref (80 + 2 * i)), (4, .int (nI k)), (5, .int (nI (tdB (fun v => stT (R (80 + 2 * i + 1)) (dsG (cvc Wc0 len0) (wvc Wc1 len1) N (fun i => (imP (W 0) N).getD i 0) (imP (W 0) N).length (tbI (W 0) (nI 63) (nI v) 6) k).1 N) u).1)), (6, .int (tdB (fun v => stT (R (80 + 2 * i + 1)) (dsG (cvc Wc0 len0) (wvc Wc1 len1) N (fun i => (imP (W 0) N).getD i 0) (imP (W 0) N).length (tbI (W 0) (nI 63) (nI v) 6) k).1 N) u).2), (7, .int (tpv (10 - u)))] [] n1 (co R1 W1 Z1 T1 kn1 h0) c s Q) (10) ?_ (fun u hu hn => ?_) 0 (by omega) R W Z T kn n 0 0 JF.id hI ⟨8, 64, Or.inl ⟨Nat.le_refl _, Nat.le_refl _⟩, by have := bue_le (len := len0) (np := (imP (W 0) N).length) (kn := kn); omega, by have := bue_le (len := len0) (np := (imP (W 0) N).length) (kn := kn); omega⟩
            · skip
              intro R1 W1 Z1 T1 kn1 n1 c s hJ1 hI1 hcs
              obtain ⟨mi, si, hmi, hc9, hs9⟩ := id hcs
              refine V.iload d_F_talked_89 rfl ?_
              refine V.if_lt (tgt := 119) d_F_talked_91 (by decide) (fun c_91 => ?_) (fun c_91 => ?_)
              · skip
                refine V.iload_n d_F_talked_119 rfl ?_
                refine V.if_ne (tgt := 126) d_F_talked_120 (by decide) (fun c_120 => ?_) (fun c_120 => ?_)
                · skip
                  refine V.iload d_F_talked_126 rfl ?_
                  refine V.if_ge (tgt := 139) d_F_talked_128 (by decide) (fun c_128 => ?_) (fun c_128 => ?_)
                  · skip
                    refine V.iload d_F_talked_139 rfl ?_
                    refine V.iret d_F_talked_141 rfl (by omega) (by omega) ?_
                    have z0 : z ≠ 0 := fun q => c_120 (by rw [q]; rfl)
                    have h := hOk i z k hi hz rfl rfl (of_decide_eq_false c_44) esz ek hk (Or.inr (Int32.not_lt.mpr c_128)) R1 W1 Z1 T1 kn1 n1 hJ1 hI1
                    rw [if_neg z0] at h
                    exact h
                  · skip
                    refine V.aload_n d_F_talked_131 rfl ?_
                    refine V.iconst_ (nI 2) d_F_talked_132 (by decide +kernel) ?_
                    refine V.callV1 d_F_talked_133 k_F_97_F_error_FV (co_s sc_ob) (Nat.le_of_ble_eq_true rfl) (by omega) (by omega) (c_F_error (by decide) ?_)
                    refine V.goto (tgt := 141) d_F_talked_136 (by decide) ?_
                    refine V.iret d_F_talked_141 rfl (by omega) (by omega) ?_
                    exact hN2 i z k hi hz rfl rfl (of_decide_eq_false c_44) esz ek hk (by have : z ≠ 0 := fun q => c_120 (by rw [q]; rfl); omega) (Int32.not_le.mp c_128) R1 W1 Z1 T1 kn1 n1 hJ1 hI1
                · skip
                  refine V.iload d_F_talked_123 rfl ?_
                  refine V.iret d_F_talked_125 rfl (by omega) (by omega) ?_
                  have z0 : z = 0 := (nI_eq (by omega) (by decide)).mp (show nI z = nI 0 from c_120)
                  have h := hOk i z k hi hz rfl rfl (of_decide_eq_false c_44) esz ek hk (Or.inl z0) R1 W1 Z1 T1 kn1 n1 hJ1 hI1
                  rw [if_pos z0] at h
                  exact h
              · skip
                exact absurd (show tpv (10 - 10) < 0 by decide) c_91
            · skip
              intro R1 W1 Z1 T1 kn1 n1 c s hJ1 hI1 hcs
              obtain ⟨mi, si, hmi, hc9, hs9⟩ := hcs
              have eW0 : W1 0 = W 0 := hJ1.2.2 0 (by decide)
              obtain ⟨-, -, -, -, hB01, hB11, -, -, hT1, -⟩ := id hI1
              obtain ⟨B, hBe⟩ : ∃ b, b = (if 0 < k ∧ ¬ (stS (W 0) true N &&& nI 255) = 0 then bue len0 (imP (W 0) N).length kn1 else 0) := ⟨_, rfl⟩
              have hBl : B ≤ bue len0 (imP (W 0) N).length kn1 := by rw [hBe]; split <;> omega
              have ev : tpv (10 - u) = nI (9 - u) := (tpv_n (by omega)).trans (congrArg nI (by omega))
              have hn' := hn
              rw [show 10 - (u + 1) = 9 - u by omega] at hn'
              rw [ev]
              have ez1 : Z1 (80 + 2 * i) 1 = nI (N + 1) := by rw [hJ1.2.1 _ _ (by omega) (by omega)]; exact esz
              have eR1 : R1 (80 + 2 * i + 1) = R (80 + 2 * i + 1) := hJ1.1 _ (by omega) (by omega) (by omega)
              refine V.iload d_F_talked_89 rfl ?_
              refine V.if_lt (tgt := 119) d_F_talked_91 (by decide) (fun c_91 => ?_) (fun c_91 => ?_)
              · skip
                exact absurd c_91 (nI_pos (by omega))
              · skip
                refine V.aload_n d_F_talked_94 rfl ?_
                refine V.aload_n d_F_talked_95 rfl ?_
                refine V.iload d_F_talked_96 rfl ?_
                refine V.iload d_F_talked_98 rfl ?_
                refine V.callV3 d_F_talked_100 k_F_244_F_standsByTalk_FV (co_s sc_ob) (Nat.le_of_ble_eq_true rfl) (by omega) (by omega) (c_F_standsByTalk (mi := mi) (si := si) (B := B) (D0 := W 0) hI1 hh0 eW0 hmi ⟨9 - u, by omega, rfl⟩ (by omega) hi ez1 hBe (fun R2 W2 Z2 T2 kn2 n2 hJ2 hI2 hU2 hA2 hb2 => ?_))
                rw [eR1]
                refine V.ifeqB (tgt := 113) d_F_talked_103 (by decide) (fun c_103 => ?_) (fun c_103 => ?_)
                · skip
                  refine V.iinc d_F_talked_113 rfl (tpv_dec (9 - u)) (by decide) ?_
                  refine V.goto (tgt := 89) d_F_talked_116 (by decide) ?_
                  rw [tdB_f c_103] at hn'
                  exact V.lc rfl (hn' R2 W2 Z2 T2 kn2 n2 _ _ (hJ1.tr hJ2) hI2 ⟨0, 0, Or.inr hA2, by omega, by omega⟩)
                · skip
                  refine V.incN d_F_talked_106 rfl (by decide) ?_
                  refine V.iload d_F_talked_109 rfl ?_
                  refine V.istore d_F_talked_111 (by decide) ?_
                  refine V.iinc d_F_talked_113 rfl (tpv_dec (9 - u)) (by decide) ?_
                  refine V.goto (tgt := 89) d_F_talked_116 (by decide) ?_
                  rw [tdB_t c_103] at hn'
                  exact V.lc rfl (hn' R2 W2 Z2 T2 kn2 n2 _ _ (hJ1.tr hJ2) hI2 ⟨0, 0, Or.inr hA2, by omega, by omega⟩)
          · skip
            refine V.aload_n d_F_talked_73 rfl ?_
            refine V.iconst_ (nI 2) d_F_talked_74 (by decide +kernel) ?_
            refine V.callV1 d_F_talked_75 k_F_97_F_error_FV (co_s sc_ob) (Nat.le_of_ble_eq_true rfl) (by omega) (by omega) (c_F_error (by decide) ?_)
            refine V.iret d_F_talked_78 rfl (by omega) (by omega) ?_
            refine hNo i z sz hi hz rfl rfl esz hsz (Or.inr (Or.inr ⟨c_60, ?_⟩))
            obtain rfl : sz = N + 1 := c_60
            rw [pk_sub (by omega), Nat.add_sub_cancel, rgt_in (by omega) (by omega)] at c_70
            exact c_70
    · skip
      refine V.aload_n d_F_talked_15 rfl ?_
      refine V.iconst_ (nI 1) d_F_talked_16 (by decide +kernel) ?_
      refine V.callV1 d_F_talked_17 k_F_97_F_error_FV (co_s sc_ob) (Nat.le_of_ble_eq_true rfl) (by omega) (by omega) (c_F_error (by decide) ?_)
      refine V.iret d_F_talked_20 rfl (by omega) (by omega) ?_
      exact hE (by simp only [c_4, c_12, Bool.and_false, Bool.false_and, Bool.and_true, Bool.true_and])
