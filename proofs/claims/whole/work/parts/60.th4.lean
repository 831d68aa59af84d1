def kcB (f : Nat → Int32) : Nat → Int32 × Int32 := fun k => itr (fun p bm => if bm.2 < f p then (nI p, f p) else bm) k (nI 0, -1)
theorem kcB_t {f : Nat → Int32} {u : Nat} (h : (kcB f u).2 < f u) : kcB f (u + 1) = (nI u, f u) := if_pos h
theorem kcB_f {f : Nat → Int32} {u : Nat} (h : ¬ (kcB f u).2 < f u) : kcB f (u + 1) = kcB f u := if_neg h
abbrev M_F_keeper : MD := (⟨"FelledByNames", "keeper", "(II)I"⟩, prog_1_method_24_code, 7, (some .int), fun _ => True)
theorem d_F_keeper_0 : decode prog_1_method_24_code 0 = .ok (.iload_n 1, 1) := by decide +kernel
theorem d_F_keeper_1 : decode prog_1_method_24_code 1 = .ok (.bipush 30, 2) := by decide +kernel
theorem d_F_keeper_3 : decode prog_1_method_24_code 3 = .ok (.invokestatic 94, 3) := by decide +kernel
theorem d_F_keeper_6 : decode prog_1_method_24_code 6 = .ok (.ifCond .eq 11, 3) := by decide +kernel
theorem d_F_keeper_17 : decode prog_1_method_24_code 17 = .ok (.aload_n 0, 1) := by decide +kernel
theorem d_F_keeper_18 : decode prog_1_method_24_code 18 = .ok (.iconst 1, 1) := by decide +kernel
theorem d_F_keeper_19 : decode prog_1_method_24_code 19 = .ok (.invokevirtual 97, 3) := by decide +kernel
theorem d_F_keeper_22 : decode prog_1_method_24_code 22 = .ok (.ireturn, 1) := by decide +kernel
theorem d_F_keeper_9 : decode prog_1_method_24_code 9 = .ok (.iload_n 2, 1) := by decide +kernel
theorem d_F_keeper_10 : decode prog_1_method_24_code 10 = .ok (.iconst 1, 1) := by decide +kernel
theorem d_F_keeper_11 : decode prog_1_method_24_code 11 = .ok (.invokestatic 94, 3) := by decide +kernel
theorem d_F_keeper_14 : decode prog_1_method_24_code 14 = .ok (.ifCond .ne 9, 3) := by decide +kernel
theorem d_F_keeper_23 : decode prog_1_method_24_code 23 = .ok (.iconst 0, 1) := by decide +kernel
theorem d_F_keeper_24 : decode prog_1_method_24_code 24 = .ok (.istore_n 3, 1) := by decide +kernel
theorem d_F_keeper_25 : decode prog_1_method_24_code 25 = .ok (.iconst (-1), 1) := by decide +kernel
theorem d_F_keeper_26 : decode prog_1_method_24_code 26 = .ok (.istore 4, 2) := by decide +kernel
theorem d_F_keeper_28 : decode prog_1_method_24_code 28 = .ok (.iconst 0, 1) := by decide +kernel
theorem d_F_keeper_29 : decode prog_1_method_24_code 29 = .ok (.istore 5, 2) := by decide +kernel
theorem d_F_keeper_31 : decode prog_1_method_24_code 31 = .ok (.iload 5, 2) := by decide +kernel
theorem d_F_keeper_33 : decode prog_1_method_24_code 33 = .ok (.bipush 6, 2) := by decide +kernel
theorem d_F_keeper_35 : decode prog_1_method_24_code 35 = .ok (.if_icmp .ge 67, 3) := by decide +kernel
theorem d_F_keeper_102 : decode prog_1_method_24_code 102 = .ok (.iload_n 2, 1) := by decide +kernel
theorem d_F_keeper_103 : decode prog_1_method_24_code 103 = .ok (.ifCond .ne 7, 3) := by decide +kernel
theorem d_F_keeper_110 : decode prog_1_method_24_code 110 = .ok (.iload 4, 2) := by decide +kernel
theorem d_F_keeper_112 : decode prog_1_method_24_code 112 = .ok (.ireturn, 1) := by decide +kernel
theorem d_F_keeper_106 : decode prog_1_method_24_code 106 = .ok (.iload_n 3, 1) := by decide +kernel
theorem d_F_keeper_107 : decode prog_1_method_24_code 107 = .ok (.goto 5, 3) := by decide +kernel
theorem d_F_keeper_38 : decode prog_1_method_24_code 38 = .ok (.aload_n 0, 1) := by decide +kernel
theorem d_F_keeper_39 : decode prog_1_method_24_code 39 = .ok (.getfield 43, 3) := by decide +kernel
theorem d_F_keeper_42 : decode prog_1_method_24_code 42 = .ok (.aload_n 0, 1) := by decide +kernel
theorem d_F_keeper_43 : decode prog_1_method_24_code 43 = .ok (.getfield 39, 3) := by decide +kernel
theorem d_F_keeper_46 : decode prog_1_method_24_code 46 = .ok (.invokevirtual 212, 3) := by decide +kernel
theorem d_F_keeper_49 : decode prog_1_method_24_code 49 = .ok (.aload_n 0, 1) := by decide +kernel
theorem d_F_keeper_50 : decode prog_1_method_24_code 50 = .ok (.getfield 43, 3) := by decide +kernel
theorem d_F_keeper_53 : decode prog_1_method_24_code 53 = .ok (.iload 5, 2) := by decide +kernel
theorem d_F_keeper_55 : decode prog_1_method_24_code 55 = .ok (.invokevirtual 252, 3) := by decide +kernel
theorem kB_World_holdFast : kB M_World_holdFast 1 := ⟨tm 5 (by decide +kernel) rfl, tm 860 (by decide +kernel) rfl, ⟨by decide, by decide, by decide +kernel⟩, by decide⟩
theorem k_F_252_World_holdFast_WorldV : kV "FelledByNames" 252 4 M_World_holdFast 1 := ⟨kB_World_holdFast, tm 857 (by decide +kernel) rfl, tm 858 (by decide +kernel) rfl, tm 859 (by decide +kernel) rfl, _, rfl, rfl⟩
theorem d_F_keeper_58 : decode prog_1_method_24_code 58 = .ok (.aload_n 0, 1) := by decide +kernel
theorem d_F_keeper_59 : decode prog_1_method_24_code 59 = .ok (.getfield 43, 3) := by decide +kernel
theorem d_F_keeper_62 : decode prog_1_method_24_code 62 = .ok (.sipush 255, 3) := by decide +kernel
theorem d_F_keeper_65 : decode prog_1_method_24_code 65 = .ok (.iload_n 1, 1) := by decide +kernel
theorem d_F_keeper_66 : decode prog_1_method_24_code 66 = .ok (.invokevirtual 216, 3) := by decide +kernel
theorem d_F_keeper_69 : decode prog_1_method_24_code 69 = .ok (.aload_n 0, 1) := by decide +kernel
theorem d_F_keeper_70 : decode prog_1_method_24_code 70 = .ok (.getfield 43, 3) := by decide +kernel
theorem d_F_keeper_73 : decode prog_1_method_24_code 73 = .ok (.iconst 1, 1) := by decide +kernel
theorem d_F_keeper_74 : decode prog_1_method_24_code 74 = .ok (.invokevirtual 220, 3) := by decide +kernel
theorem d_F_keeper_77 : decode prog_1_method_24_code 77 = .ok (.invokestatic 228, 3) := by decide +kernel
theorem d_F_keeper_80 : decode prog_1_method_24_code 80 = .ok (.istore 6, 2) := by decide +kernel
theorem d_F_keeper_82 : decode prog_1_method_24_code 82 = .ok (.iload 6, 2) := by decide +kernel
theorem d_F_keeper_84 : decode prog_1_method_24_code 84 = .ok (.iload 4, 2) := by decide +kernel
theorem d_F_keeper_86 : decode prog_1_method_24_code 86 = .ok (.if_icmp .le 10, 3) := by decide +kernel
theorem d_F_keeper_96 : decode prog_1_method_24_code 96 = .ok (.iinc 5 1, 3) := by decide +kernel
theorem d_F_keeper_99 : decode prog_1_method_24_code 99 = .ok (.goto (-68), 3) := by decide +kernel
theorem d_F_keeper_89 : decode prog_1_method_24_code 89 = .ok (.iload 6, 2) := by decide +kernel
theorem d_F_keeper_91 : decode prog_1_method_24_code 91 = .ok (.istore 4, 2) := by decide +kernel
theorem d_F_keeper_93 : decode prog_1_method_24_code 93 = .ok (.iload 5, 2) := by decide +kernel
theorem d_F_keeper_95 : decode prog_1_method_24_code 95 = .ok (.istore_n 3, 1) := by decide +kernel
set_option maxRecDepth 100000 in
theorem c_F_keeper {N dy len0 len1 : Nat} {Wc0 Wc1 : Nat → Nat} {x y : Int32} {l : Launch} {d n : Nat} {R W Z : Nat → Nat → Int32} {T : Nat → Nat → Nat} {kn : Kn} {h0 : HP} {Q : QT} (hI : CI R W Z T kn n N dy Wc0 len0 Wc1 len1) (hh0 : ∀ a, ¬ (88 ≤ a ∧ a < 104) → h0 a = none) (hE : (wi x (nI 0) (nI 30) && wi y (nI 0) (nI 1)) = false → Q (some (.int (-1000000000 - nI 1))) n (co (uA R 54 (upd (R 54) 1 (R 54 1 + nI 1))) W Z T kn h0)) (hOk : ∀ k w, k ≤ 30 → w ≤ 1 → x = nI k → y = nI w → ∀ (R1 W1 Z1 : Nat → Nat → Int32) (T1 : Nat → Nat → Nat) (kn1 : Kn) (n1 : Nat), JF R W Z R1 W1 Z1 → CI R1 W1 Z1 T1 kn1 n1 N dy Wc0 len0 Wc1 len1 → Q (some (.int (if w = 0 then (kcB (fun p => bcv (stS (dsG (cvc Wc0 len0) (wvc Wc1 len1) N (fun i => (imP (W 0) N).getD i 0) (imP (W 0) N).length (kpD (W 0) p 6) k).1 true N)) 6).1 else (kcB (fun p => bcv (stS (dsG (cvc Wc0 len0) (wvc Wc1 len1) N (fun i => (imP (W 0) N).getD i 0) (imP (W 0) N).length (kpD (W 0) p 6) k).1 true N)) 6).2))) n1 (co R1 W1 Z1 T1 kn1 h0)) : Ct l M_F_keeper (d + 14) 9 13364 [.ref 0, .int x, .int y] n (co R W Z T kn h0) Q := by
  refine Ct.of (fun _ => trivial) (by decide) (Nat.le_of_ble_eq_true rfl) ?_
  obtain ⟨hN, e0, hdy, hd9, hB0, hB1, hx0, hx1, hT, hK⟩ := id hI
  have hpl : ∀ i, i < (imP (W 0) N).length → (fun i => (imP (W 0) N).getD i 0) i < 36 := fun i hi => by
    refine imP_lt hB0 N hN _ ?_
    show (imP (W 0) N).getD i 0 ∈ _
    rw [List.getD_eq_getElem?_getD, List.getElem?_eq_getElem hi]
    exact List.getElem_mem hi
  refine V.iload_n d_F_keeper_0 rfl ?_
  refine V.bipush_ (nI 30) d_F_keeper_1 (by decide +kernel) ?_
  refine V.callS2 d_F_keeper_3 k_F_94_F_withinS (Nat.le_of_ble_eq_true rfl) (by omega) (by omega) (c_F_within ?_)
  refine V.ifeqB (tgt := 17) d_F_keeper_6 (by decide) (fun c_6 => ?_) (fun c_6 => ?_)
  · skip
    refine V.aload_n d_F_keeper_17 rfl ?_
    refine V.iconst_ (nI 1) d_F_keeper_18 (by decide +kernel) ?_
    refine V.callV1 d_F_keeper_19 k_F_97_F_error_FV (co_s sc_ob) (Nat.le_of_ble_eq_true rfl) (by omega) (by omega) (c_F_error (by decide) ?_)
    refine V.iret d_F_keeper_22 rfl (by omega) (by omega) ?_
    exact hE (by simp only [c_6, Bool.and_false, Bool.false_and, Bool.and_true, Bool.true_and])
  · skip
    refine V.iload_n d_F_keeper_9 rfl ?_
    refine V.iconst_ (nI 1) d_F_keeper_10 (by decide +kernel) ?_
    refine V.callS2 d_F_keeper_11 k_F_94_F_withinS (Nat.le_of_ble_eq_true rfl) (by omega) (by omega) (c_F_within ?_)
    refine V.ifneB (tgt := 23) d_F_keeper_14 (by decide) (fun c_14 => ?_) (fun c_14 => ?_)
    · skip
      obtain ⟨k, hk, rfl⟩ := wi_nat (k := 30) (by decide) c_6
      obtain ⟨w, hw1, rfl⟩ := wi_nat (k := 1) (by decide) c_14
      refine V.iconst_ (nI 0) d_F_keeper_23 (by decide +kernel) ?_
      refine V.istore_n d_F_keeper_24 (by decide) ?_
      refine V.iconst_ (-1) d_F_keeper_25 (by decide +kernel) ?_
      refine V.istore d_F_keeper_26 (by decide) ?_
      refine V.iconst_ (nI 0) d_F_keeper_28 (by decide +kernel) ?_
      refine V.istore d_F_keeper_29 (by decide) ?_
      refine V.lc (ls' := [(0, .ref 0), (1, .int (nI k)), (2, .int (nI w)), (3, .int (kcB (fun p => bcv (stS (dsG (cvc Wc0 len0) (wvc Wc1 len1) N (fun i => (imP (W 0) N).getD i 0) (imP (W 0) N).length (kpD (W 0) p 6) k).1 true N)) 0).1), (4, .int (kcB (fun p => bcv (stS (dsG (cvc Wc0 len0) (wvc Wc1 len1) N (fun i => (imP (W 0) N).getD i 0) (imP (W 0) N).length (kpD (W 0) p 6) k).1 true N)) 0).2), (5, .int (nI 0))]) rfl ?_
      refine up_to (G := fun u => ∀ (R1 W1 Z1 : Nat → Nat → Int32) (T1 : Nat → Nat → Nat) (kn1 : Kn) (n1 c s : Nat), JF R W Z R1 W1 Z1 → CI R1 W1 Z1 T1 kn1 n1 N dy Wc0 len0 Wc1 len1 → (∃ mi si, ((8 ≤ mi ∧ 64 ≤ si) ∨ AL W1) ∧ c + mi + bue len0 (imP (W 0) N).length kn1 ≤ 9 ∧ s + si + 13300 * bue len0 (imP (W 0) N).length kn1 ≤ 13364) → V l M_F_keeper (d + 14) 9 13364 31 [(0, .ref 0), (1, .int (nI k)), (2, .int (nI w)), (3, .int (kcB (fun p => bcv (stS (dsG (cvc Wc0 len0) (wvc Wc1 len1) N (fun i => (imP (W 0) N).getD i 0) (imP (W 0) N).length (kpD (W 0) p 6) k).1 true N)) u).1), (4, .int (kcB (fun p => bcv (stS (dsG (cvc Wc0 len0) (wvc Wc1 len1) N (fun i => (imP (W 0) N).getD i 0) (imP (W 0) N).length (kpD (W 0) p 6) k).1 true N)) u).2), (5, .int (nI u))] [] n1 (co R1 W1 Z1 T1 kn1 h0) c s Q) (6) ?_ (fun u hu hn => ?_) 0 (by omega) R W Z T kn n 0 0 JF.id hI ⟨8, 64, Or.inl ⟨Nat.le_refl _, Nat.le_refl _⟩, by have := bue_le (len := len0) (np := (imP (W 0) N).length) (kn := kn); omega, by have := bue_le (len := len0) (np := (imP (W 0) N).length) (kn := kn); omega⟩
      · skip
        intro R1 W1 Z1 T1 kn1 n1 c s hJ1 hI1 hcs
        obtain ⟨mi, si, hmi, hc9, hs9⟩ := id hcs
        refine V.iload d_F_keeper_31 rfl ?_
        refine V.bipush_ (nI 6) d_F_keeper_33 (by decide +kernel) ?_
        refine V.geN (tgt := 102) d_F_keeper_35 (by decide) (by omega) (by omega) (fun c_35 => ?_) (fun c_35 => ?_)
        · skip
          refine V.iload_n d_F_keeper_102 rfl ?_
          refine V.if_ne (tgt := 110) d_F_keeper_103 (by decide) (fun c_103 => ?_) (fun c_103 => ?_)
          · skip
            refine V.iload d_F_keeper_110 rfl ?_
            refine V.iret d_F_keeper_112 rfl (by omega) (by omega) ?_
            have h := hOk k w hk hw1 rfl rfl R1 W1 Z1 T1 kn1 n1 hJ1 hI1
            rw [if_neg (fun z => c_103 (by rw [z]; rfl))] at h
            exact h
          · skip
            refine V.iload_n d_F_keeper_106 rfl ?_
            refine V.goto (tgt := 112) d_F_keeper_107 (by decide) ?_
            refine V.iret d_F_keeper_112 rfl (by omega) (by omega) ?_
            have h := hOk k w hk hw1 rfl rfl R1 W1 Z1 T1 kn1 n1 hJ1 hI1
            rw [if_pos ((nI_eq (by omega) (by decide)).mp (show nI w = nI 0 from c_103))] at h
            exact h
        · skip
          exact absurd c_35 (by omega)
      · skip
        intro R1 W1 Z1 T1 kn1 n1 c s hJ1 hI1 hcs
        obtain ⟨mi, si, hmi, hc9, hs9⟩ := hcs
        have eW0 : W1 0 = W 0 := hJ1.2.2 0 (by decide)
        obtain ⟨-, -, -, -, hB01, hB11, -, -, hT1, -⟩ := id hI1
        obtain ⟨B, hBe⟩ : ∃ b, b = (if 0 < k ∧ ¬ (stS (W 0) true N &&& nI 255) = 0 then bue len0 (imP (W 0) N).length kn1 else 0) := ⟨_, rfl⟩
        have hBl : B ≤ bue len0 (imP (W 0) N).length kn1 := by rw [hBe]; split <;> omega
        refine V.iload d_F_keeper_31 rfl ?_
        refine V.bipush_ (nI 6) d_F_keeper_33 (by decide +kernel) ?_
        refine V.geN (tgt := 102) d_F_keeper_35 (by decide) (by omega) (by omega) (fun c_35 => ?_) (fun c_35 => ?_)
        · skip
          exact absurd c_35 (by omega)
        · skip
          refine V.aload_n d_F_keeper_38 rfl ?_
          refine V.get d_F_keeper_39 f_F_43_F (co_s sc_ob) rfl ?_
          refine V.aload_n d_F_keeper_42 rfl ?_
          refine V.get d_F_keeper_43 f_F_39_F (co_s sc_ob) rfl ?_
          refine V.callV1 d_F_keeper_46 k_F_212_World_imagine_WorldV (co_s (sc_wd (wb_ds 1 (by decide)).1)) (Nat.le_of_ble_eq_true rfl) (by omega) (by omega) (t_imagine (mi := mi) (si := si) hI1 hh0 hmi (fun Ra Wa Za Ta na hJa hIa hna hWa hHa hZa hPa hAa hUa => ?_))
          rw [eW0] at hWa hPa
          obtain ⟨-, -, -, -, -, hB1a, -, -, hTa2, hKa2⟩ := id hIa
          refine V.aload_n d_F_keeper_49 rfl ?_
          refine V.get d_F_keeper_50 f_F_43_F (co_s sc_ob) rfl ?_
          refine V.iload d_F_keeper_53 rfl ?_
          refine V.callV1 d_F_keeper_55 k_F_252_World_holdFast_WorldV (co_s (sc_wd (wb_ds 1 (by decide)).1)) (Nat.le_of_ble_eq_true rfl) (by omega) (by omega) (c_World_holdFast (w := 1) (a := u) (by decide) hu hTa2 ?_)
          rw [hWa]
          have hBt : WB (kpD (cpW (W1 1) (W 0)) u 6) := (hB11.cp hB0).kp hu 6 (Nat.le_refl _)
          have hAG : AG N (fun _ => True) (kpD (W 0) u 6) (kpD (cpW (W1 1) (W 0)) u 6) := (AG.cp hN).kp 6
          have hkp : ∀ j, j < 6 ∨ (50 ≤ j ∧ j < 106) → (kpD (cpW (W1 1) (W 0)) u 6) j = W 0 j := fun j hj => by rw [kpD_n hu (by omega) 6 (Nat.le_refl _)]; exact cpW_r (by omega)
          have eS0 : stS (kpD (cpW (W1 1) (W 0)) u 6) true N = stS (W 0) true N := stS_c N (fun i hi => hkp _ (by omega))
          have hIt := hIa.md hBt
          have hAt := hAa.md (D' := (kpD (cpW (W1 1) (W 0)) u 6)) (fun i hi => by rw [hkp _ (by omega), hWa]; exact (cpW_r (by omega)).symm)
          have e1t : uW Wa 1 (kpD (cpW (W1 1) (W 0)) u 6) 1 0 = nI N := by rw [uW_s, hkp 0 (by omega)]; exact e0
          have edt : uW Wa 1 (kpD (cpW (W1 1) (W 0)) u 6) 1 1 = nI dy := by rw [uW_s, hkp 1 (by omega)]; exact hdy
          refine V.aload_n d_F_keeper_58 rfl ?_
          refine V.get d_F_keeper_59 f_F_43_F (co_s sc_ob) rfl ?_
          refine V.sipush_ (nI 255) d_F_keeper_62 (by decide +kernel) ?_
          refine V.iload_n d_F_keeper_65 rfl ?_
          refine V.callV2 d_F_keeper_66 k_F_216_World_passUntilDown_WorldV (co_s (sc_wd (wb_ds 1 (by decide)).1)) (Nat.le_of_ble_eq_true rfl) (by omega) (by omega) (t_pass (nn := k) (B := B) hIt e1t edt (by omega) hPa hZa hAt (fun q1 q2 => by rw [uW_s, eS0] at q2; rw [hBe, if_pos ⟨q1, q2⟩]; exact Nat.le_refl _) (by omega) (fun m Rb Wb Zb knb nb hmb hsb hab hJb hIb hnb hWb hrb hzb hhb hAb hbb hPb => ?_))
          rw [uW_s] at hsb hWb hbb hrb hzb hhb
          obtain ⟨-, e0b, -, -, -, hB1b, -, -, hTb, -⟩ := id hIb
          have e1b : Wb 1 0 = nI N := by rw [hWb, (dsG_i hN hBt hpl m).2.1, hkp 0 (by omega)]; exact e0
          have hbe : bue len0 (imP (W 0) N).length knb + B = bue len0 (imP (W 0) N).length kn1 := by
            rw [hBe]
            rw [eS0] at hbb
            by_cases z : 0 < k ∧ ¬ (stS (W 0) true N &&& nI 255) = 0
            · rw [if_pos z, hbb.1 z, Nat.zero_add]
            · rw [if_neg z, hbb.2 z, Nat.add_zero]
          obtain ⟨hAGk, hALk⟩ := dsG_ag (cv := cvc Wc0 len0) (wv := wvc Wc1 len1) hpl hAG ((hB0.kp hu 6 (Nat.le_refl _)).tb5 hN) k
          obtain ⟨-, q2, -⟩ := pud_255 (cv := cvc Wc0 len0) (wv := wvc Wc1 len1) (D := (kpD (cpW (W1 1) (W 0)) u 6)) hN hpl hmb hsb (fun _ => 0)
          have eSt : stS (Wb 1) true N = stS (dsG (cvc Wc0 len0) (wvc Wc1 len1) N (fun i => (imP (W 0) N).getD i 0) (imP (W 0) N).length (kpD (W 0) u 6) k).1 true N := by rw [hWb, ← stS_c N (fun i _ => q2 (50 + 7 * i + 6) (by omega) (by omega))]; exact hAGk.stS_
          have hJq : JF R W Z Rb Wb Zb := hJ1.tr (hJa.tr (JF.md.tr hJb))
          refine V.aload_n d_F_keeper_69 rfl ?_
          refine V.get d_F_keeper_70 f_F_43_F (co_s sc_ob) rfl ?_
          refine V.iconst_ (nI 1) d_F_keeper_73 (by decide +kernel) ?_
          refine V.callV1 d_F_keeper_74 k_F_220_World_setOfTrees_WorldV (co_s (sc_wd (wb_ds 1 (by decide)).1)) (Nat.le_of_ble_eq_true rfl) (by omega) (by omega) (c_World_setOfTrees (w := 1) (b := true) (by decide) hTb hB1b hN e1b ?_)
          rw [eSt]
          refine V.callS1 d_F_keeper_77 k_F_228_Integer_bitCountS (Nat.le_of_ble_eq_true rfl) (by omega) (by omega) (c_Integer_bitCount ?_)
          refine V.istore d_F_keeper_80 (by decide) ?_
          refine V.iload d_F_keeper_82 rfl ?_
          refine V.iload d_F_keeper_84 rfl ?_
          refine V.icmp_le (tgt := 96) d_F_keeper_86 (by decide) (fun c_86 => ?_) (fun c_86 => ?_)
          · skip
            refine V.incN d_F_keeper_96 rfl (by decide) ?_
            refine V.goto (tgt := 31) d_F_keeper_99 (by decide) ?_
            rw [kcB_f (Int32.not_lt.mpr c_86)] at hn
            exact V.lc rfl (hn Rb Wb Zb Ta knb nb _ _ hJq hIb ⟨0, 0, Or.inr hAb, by omega, by omega⟩)
          · skip
            refine V.iload d_F_keeper_89 rfl ?_
            refine V.istore d_F_keeper_91 (by decide) ?_
            refine V.iload d_F_keeper_93 rfl ?_
            refine V.istore_n d_F_keeper_95 (by decide) ?_
            refine V.incN d_F_keeper_96 rfl (by decide) ?_
            refine V.goto (tgt := 31) d_F_keeper_99 (by decide) ?_
            rw [kcB_t (Int32.not_le.mp c_86)] at hn
            exact V.lc rfl (hn Rb Wb Zb Ta knb nb _ _ hJq hIb ⟨0, 0, Or.inr hAb, by omega, by omega⟩)
    · skip
      refine V.aload_n d_F_keeper_17 rfl ?_
      refine V.iconst_ (nI 1) d_F_keeper_18 (by decide +kernel) ?_
      refine V.callV1 d_F_keeper_19 k_F_97_F_error_FV (co_s sc_ob) (Nat.le_of_ble_eq_true rfl) (by omega) (by omega) (c_F_error (by decide) ?_)
      refine V.iret d_F_keeper_22 rfl (by omega) (by omega) ?_
      exact hE (by simp only [c_6, c_14, Bool.and_false, Bool.false_and, Bool.and_true, Bool.true_and])
abbrev M_F_order : MD := (⟨"FelledByNames", "order", "(I)I"⟩, prog_1_method_25_code, 5, (some .int), fun _ => True)
theorem d_F_order_0 : decode prog_1_method_25_code 0 = .ok (.iload_n 1, 1) := by decide +kernel
theorem d_F_order_1 : decode prog_1_method_25_code 1 = .ok (.invokestatic 233, 3) := by decide +kernel
theorem d_F_order_4 : decode prog_1_method_25_code 4 = .ok (.ifCond .ne 9, 3) := by decide +kernel
theorem d_F_order_13 : decode prog_1_method_25_code 13 = .ok (.aload_n 0, 1) := by decide +kernel
theorem d_F_order_14 : decode prog_1_method_25_code 14 = .ok (.getfield 54, 3) := by decide +kernel
theorem d_F_order_17 : decode prog_1_method_25_code 17 = .ok (.iload_n 1, 1) := by decide +kernel
theorem d_F_order_18 : decode prog_1_method_25_code 18 = .ok (.aaload, 1) := by decide +kernel
theorem d_F_order_19 : decode prog_1_method_25_code 19 = .ok (.astore_n 2, 1) := by decide +kernel
theorem d_F_order_20 : decode prog_1_method_25_code 20 = .ok (.aload_n 2, 1) := by decide +kernel
theorem d_F_order_21 : decode prog_1_method_25_code 21 = .ok (.invokevirtual 240, 3) := by decide +kernel
theorem d_F_order_24 : decode prog_1_method_25_code 24 = .ok (.ifCond .eq 9, 3) := by decide +kernel
theorem d_F_order_33 : decode prog_1_method_25_code 33 = .ok (.aload_n 0, 1) := by decide +kernel
theorem d_F_order_34 : decode prog_1_method_25_code 34 = .ok (.getfield 43, 3) := by decide +kernel
theorem d_F_order_37 : decode prog_1_method_25_code 37 = .ok (.aload_n 0, 1) := by decide +kernel
theorem d_F_order_38 : decode prog_1_method_25_code 38 = .ok (.getfield 39, 3) := by decide +kernel
theorem d_F_order_41 : decode prog_1_method_25_code 41 = .ok (.invokevirtual 212, 3) := by decide +kernel
theorem d_F_order_44 : decode prog_1_method_25_code 44 = .ok (.aload_n 0, 1) := by decide +kernel
theorem d_F_order_45 : decode prog_1_method_25_code 45 = .ok (.getfield 43, 3) := by decide +kernel
theorem d_F_order_48 : decode prog_1_method_25_code 48 = .ok (.sipush 255, 3) := by decide +kernel
theorem d_F_order_51 : decode prog_1_method_25_code 51 = .ok (.bipush 60, 2) := by decide +kernel
theorem d_F_order_53 : decode prog_1_method_25_code 53 = .ok (.invokevirtual 216, 3) := by decide +kernel
theorem d_F_order_56 : decode prog_1_method_25_code 56 = .ok (.aload_n 2, 1) := by decide +kernel
theorem d_F_order_57 : decode prog_1_method_25_code 57 = .ok (.getfield 236, 3) := by decide +kernel
theorem d_F_order_60 : decode prog_1_method_25_code 60 = .ok (.aload_n 0, 1) := by decide +kernel
theorem d_F_order_61 : decode prog_1_method_25_code 61 = .ok (.getfield 43, 3) := by decide +kernel
theorem d_F_order_64 : decode prog_1_method_25_code 64 = .ok (.getfield 197, 3) := by decide +kernel
theorem d_F_order_67 : decode prog_1_method_25_code 67 = .ok (.getfield 181, 3) := by decide +kernel
theorem d_F_order_70 : decode prog_1_method_25_code 70 = .ok (.invokestatic 255, 3) := by decide +kernel
theorem d_F_order_73 : decode prog_1_method_25_code 73 = .ok (.istore_n 3, 1) := by decide +kernel
theorem d_F_order_74 : decode prog_1_method_25_code 74 = .ok (.iconst 0, 1) := by decide +kernel
theorem d_F_order_75 : decode prog_1_method_25_code 75 = .ok (.istore 4, 2) := by decide +kernel
theorem d_F_order_77 : decode prog_1_method_25_code 77 = .ok (.iload 4, 2) := by decide +kernel
theorem d_F_order_79 : decode prog_1_method_25_code 79 = .ok (.iload_n 3, 1) := by decide +kernel
theorem d_F_order_80 : decode prog_1_method_25_code 80 = .ok (.if_icmp .ge 30, 3) := by decide +kernel
theorem d_F_order_110 : decode prog_1_method_25_code 110 = .ok (.iload 4, 2) := by decide +kernel
theorem d_F_order_112 : decode prog_1_method_25_code 112 = .ok (.ireturn, 1) := by decide +kernel
theorem d_F_order_83 : decode prog_1_method_25_code 83 = .ok (.aload_n 2, 1) := by decide +kernel
theorem d_F_order_84 : decode prog_1_method_25_code 84 = .ok (.iload 4, 2) := by decide +kernel
theorem d_F_order_86 : decode prog_1_method_25_code 86 = .ok (.invokevirtual 237, 3) := by decide +kernel
theorem d_F_order_89 : decode prog_1_method_25_code 89 = .ok (.aload_n 0, 1) := by decide +kernel
theorem d_F_order_90 : decode prog_1_method_25_code 90 = .ok (.getfield 43, 3) := by decide +kernel
theorem d_F_order_93 : decode prog_1_method_25_code 93 = .ok (.getfield 197, 3) := by decide +kernel
theorem d_F_order_96 : decode prog_1_method_25_code 96 = .ok (.iload 4, 2) := by decide +kernel
theorem d_F_order_98 : decode prog_1_method_25_code 98 = .ok (.invokevirtual 260, 3) := by decide +kernel
theorem d_F_order_101 : decode prog_1_method_25_code 101 = .ok (.if_icmp .ne 9, 3) := by decide +kernel
theorem d_F_order_104 : decode prog_1_method_25_code 104 = .ok (.iinc 4 1, 3) := by decide +kernel
theorem d_F_order_107 : decode prog_1_method_25_code 107 = .ok (.goto (-30), 3) := by decide +kernel
theorem d_F_order_27 : decode prog_1_method_25_code 27 = .ok (.aload_n 0, 1) := by decide +kernel
theorem d_F_order_28 : decode prog_1_method_25_code 28 = .ok (.iconst 2, 1) := by decide +kernel
theorem d_F_order_29 : decode prog_1_method_25_code 29 = .ok (.invokevirtual 97, 3) := by decide +kernel
theorem d_F_order_32 : decode prog_1_method_25_code 32 = .ok (.ireturn, 1) := by decide +kernel
theorem d_F_order_7 : decode prog_1_method_25_code 7 = .ok (.aload_n 0, 1) := by decide +kernel
theorem d_F_order_8 : decode prog_1_method_25_code 8 = .ok (.iconst 1, 1) := by decide +kernel
theorem d_F_order_9 : decode prog_1_method_25_code 9 = .ok (.invokevirtual 97, 3) := by decide +kernel
theorem d_F_order_12 : decode prog_1_method_25_code 12 = .ok (.ireturn, 1) := by decide +kernel
set_option maxRecDepth 100000 in
theorem c_F_order {N dy len0 len1 : Nat} {Wc0 Wc1 : Nat → Nat} {x : Int32} {l : Launch} {d n : Nat} {R W Z : Nat → Nat → Int32} {T : Nat → Nat → Nat} {kn : Kn} {h0 : HP} {Q : QT} (hI : CI R W Z T kn n N dy Wc0 len0 Wc1 len1) (hh0 : ∀ a, ¬ (88 ≤ a ∧ a < 104) → h0 a = none) (hSz : ∀ i, i < 4 → ∃ k, k ≤ 40 ∧ Z (80 + 2 * i) 1 = nI k) (hE : wi x (nI 0) (nI 3) = false → Q (some (.int (-1000000000 - nI 1))) n (co (uA R 54 (upd (R 54) 1 (R 54 1 + nI 1))) W Z T kn h0)) (hNo : ∀ i, i ≤ 3 → x = nI i → Z (80 + 2 * i) 2 = 0 → Q (some (.int (-1000000000 - nI 2))) n (co (uA R 54 (upd (R 54) 2 (R 54 2 + nI 1))) W Z T kn h0)) (hOk : ∀ i sz k, i ≤ 3 → x = nI i → ¬ Z (80 + 2 * i) 2 = 0 → Z (80 + 2 * i) 1 = nI sz → sz ≤ 40 → k ≤ sz → k ≤ (dsG (cvc Wc0 len0) (wvc Wc1 len1) N (fun i => (imP (W 0) N).getD i 0) (imP (W 0) N).length (W 0) 60).2.length → (∀ u, u < k → R (80 + 2 * i + 1) u = nI ((dsG (cvc Wc0 len0) (wvc Wc1 len1) N (fun i => (imP (W 0) N).getD i 0) (imP (W 0) N).length (W 0) 60).2.getD u 0)) → (k = sz ∨ k = (dsG (cvc Wc0 len0) (wvc Wc1 len1) N (fun i => (imP (W 0) N).getD i 0) (imP (W 0) N).length (W 0) 60).2.length ∨ (k < sz ∧ k < (dsG (cvc Wc0 len0) (wvc Wc1 len1) N (fun i => (imP (W 0) N).getD i 0) (imP (W 0) N).length (W 0) 60).2.length ∧ ¬ R (80 + 2 * i + 1) k = nI ((dsG (cvc Wc0 len0) (wvc Wc1 len1) N (fun i => (imP (W 0) N).getD i 0) (imP (W 0) N).length (W 0) 60).2.getD k 0))) → ∀ (R1 W1 Z1 : Nat → Nat → Int32) (T1 : Nat → Nat → Nat) (kn1 : Kn) (n1 : Nat), JF R W Z R1 W1 Z1 → CI R1 W1 Z1 T1 kn1 n1 N dy Wc0 len0 Wc1 len1 → Q (some (.int (nI k))) n1 (co R1 W1 Z1 T1 kn1 h0)) : Ct l M_F_order (d + 13) 9 13364 [.ref 0, .int x] n (co R W Z T kn h0) Q := by
  refine Ct.of (fun _ => trivial) (by decide) (Nat.le_of_ble_eq_true rfl) ?_
  obtain ⟨hN, e0, hdy, hd9, hB0, hB1, hx0, hx1, hT, hK⟩ := id hI
  have hpl : ∀ i, i < (imP (W 0) N).length → (fun i => (imP (W 0) N).getD i 0) i < 36 := fun i hi => by
    refine imP_lt hB0 N hN _ ?_
    show (imP (W 0) N).getD i 0 ∈ _
    rw [List.getD_eq_getElem?_getD, List.getElem?_eq_getElem hi]
    exact List.getElem_mem hi
  refine V.iload_n d_F_order_0 rfl ?_
  refine V.callS1 d_F_order_1 k_F_233_F_isSheetS (Nat.le_of_ble_eq_true rfl) (by omega) (by omega) (c_F_isSheet ?_)
  refine V.ifneB (tgt := 13) d_F_order_4 (by decide) (fun c_4 => ?_) (fun c_4 => ?_)
  · skip
    obtain ⟨i, hi, rfl⟩ := wi_nat (k := 3) (by decide) c_4
    obtain ⟨sz, hsz, esz⟩ := hSz i (by omega)
    refine V.aload_n d_F_order_13 rfl ?_
    refine V.get d_F_order_14 f_F_54_F (co_s sc_ob) rfl ?_
    refine V.iload_n d_F_order_17 rfl ?_
    refine V.aald (b := 80 + 2 * i) d_F_order_18 (Or.inr rfl) (co_s sc_ss) (vp_in_nI (by omega) (by omega)) (by rw [icl (by omega)]; exact if_pos (by omega)) ?_
    refine V.astore_n d_F_order_19 (by decide) ?_
    refine V.aload_n d_F_order_20 rfl ?_
    refine V.callV0 d_F_order_21 k_F_240_Sheet_isMissing_SheetV (co_s (sc_sh (sh_ds i (by omega)).1)) (Nat.le_of_ble_eq_true rfl) (by omega) (by omega) (c_Sheet_isMissing (sh_ds i (by omega)).1 ?_)
    refine V.ifeqB (tgt := 33) d_F_order_24 (by decide) (fun c_24 => ?_) (fun c_24 => ?_)
    · skip
      refine V.aload_n d_F_order_33 rfl ?_
      refine V.get d_F_order_34 f_F_43_F (co_s sc_ob) rfl ?_
      refine V.aload_n d_F_order_37 rfl ?_
      refine V.get d_F_order_38 f_F_39_F (co_s sc_ob) rfl ?_
      refine V.callV1 d_F_order_41 k_F_212_World_imagine_WorldV (co_s (sc_wd (wb_ds 1 (by decide)).1)) (Nat.le_of_ble_eq_true rfl) (by omega) (by omega) (t_imagine (mi := 8) (si := 64) hI hh0 (Or.inl ⟨Nat.le_refl _, Nat.le_refl _⟩) (fun Ra Wa Za Ta na hJa hIa hna hWa hHa hZa hPa hAa hUa => ?_))
      have e1a : Wa 1 0 = nI N := by rw [hWa]; exact e0
      have eda : Wa 1 1 = nI dy := by rw [hWa]; exact hdy
      refine V.aload_n d_F_order_44 rfl ?_
      refine V.get d_F_order_45 f_F_43_F (co_s sc_ob) rfl ?_
      refine V.sipush_ (nI 255) d_F_order_48 (by decide +kernel) ?_
      refine V.bipush_ (nI 60) d_F_order_51 (by decide +kernel) ?_
      refine V.callV2 d_F_order_53 k_F_216_World_passUntilDown_WorldV (co_s (sc_wd (wb_ds 1 (by decide)).1)) (Nat.le_of_ble_eq_true rfl) (by omega) (by omega) (t_pass (nn := 60) (B := 1) hIa e1a eda (by omega) hPa hZa hAa (fun _ _ => bue_le) (by omega) (fun m Rb Wb Zb knb nb hmb hsb hab hJb hIb hnb hWb hrb hzb hhb hAb hbb hPb => ?_))
      rw [hWa] at hsb hab hWb hrb hzb hhb
      obtain ⟨q1, -, -⟩ := pud_255 (cv := cvc Wc0 len0) (wv := wvc Wc1 len1) (D := cpW (W 1) (W 0)) hN hpl hmb hsb (fun _ => 0)
      have hLL := (dsG_ag (cv := cvc Wc0 len0) (wv := wvc Wc1 len1) hpl (AG.cp (D := W 1) hN) (hB0.tb5 hN) 60).2
      rw [← q1, hLL] at hrb hzb
      have hl8 : (dsG (cvc Wc0 len0) (wvc Wc1 len1) N (fun i => (imP (W 0) N).getD i 0) (imP (W 0) N).length (W 0) 60).2.length ≤ 8 := by
        have g := (dsG_i (cv := cvc Wc0 len0) (wv := wvc Wc1 len1) hN hB0 hpl 60).2.2.2
        have := cst_le (D := W 0) N
        omega
      obtain ⟨LL, hLe⟩ : ∃ L, L = (dsG (cvc Wc0 len0) (wvc Wc1 len1) N (fun i => (imP (W 0) N).getD i 0) (imP (W 0) N).length (W 0) 60).2 := ⟨_, rfl⟩
      rw [← hLe] at hrb hzb hl8 hOk
      have ez36 : Zb (wb 1 + 4) 1 = nI LL.length := hzb
      have hat : ∀ u, u < LL.length → Rb (wb 1 + 4 + 1) u = nI (LL.getD u 0) := fun u hu => by
        have e := wrl_at (Ra 37) LL 0 u (by omega) hu
        rw [Nat.zero_add] at e
        have e2 : Rb 37 u = _ := congrFun hrb u
        exact e2.trans e
      have hJq : JF R W Z Rb Wb Zb := hJa.tr hJb
      have ezb : Zb (80 + 2 * i) 1 = nI sz := by rw [hJq.2.1 _ _ (by omega) (by omega)]; exact esz
      have eRb : Rb (80 + 2 * i + 1) = R (80 + 2 * i + 1) := hJq.1 _ (by omega) (by omega) (by omega)
      refine V.aload_n d_F_order_56 rfl ?_
      refine V.get d_F_order_57 f_F_236_Sheet (co_s (sc_sh (sh_ds i (by omega)).1)) rfl ?_
      refine V.top (y := nI sz) (ezb) ?_
      refine V.aload_n d_F_order_60 rfl ?_
      refine V.get d_F_order_61 f_F_43_F (co_s sc_ob) rfl ?_
      refine V.get d_F_order_64 f_F_197_World (co_s (sc_wd (wb_ds 1 (by decide)).1)) rfl ?_
      refine V.get d_F_order_67 f_F_181_Row (co_s (sc_rw (wb_ds 1 (by decide)).2.2.2.2.1)) rfl ?_
      refine V.top (y := nI LL.length) (ez36) ?_
      refine V.mmin d_F_order_70 (tm 725 (by decide +kernel) rfl) (Nat.le_of_ble_eq_true rfl) (by omega) (by omega) ?_
      refine V.top (y := nI (min sz LL.length)) (mi_min (by omega) (by omega)) ?_
      refine V.istore_n d_F_order_73 (by decide) ?_
      refine V.iconst_ (nI 0) d_F_order_74 (by decide +kernel) ?_
      refine V.istore d_F_order_75 (by decide) ?_
      refine V.lc (ls' := [(0, .ref 0), (2, .ref (80 + 2 * i)), (3, .int (nI (min sz LL.length))), (4, .int (nI 0))]) rfl ?_
      refine up_to (G := fun u => (∀ q, q < u → R (80 + 2 * i + 1) q = nI (LL.getD q 0)) → V l M_F_order (d + 13) 9 13364 77 [(0, .ref 0), (2, .ref (80 + 2 * i)), (3, .int (nI (min sz LL.length))), (4, .int (nI u))] [] nb (co Rb Wb Zb Ta knb h0) (0 + 8 + 1) (0 + 64 + 13300 * 1) Q) (min sz LL.length) ?_ (fun u hu hn => ?_) 0 (by omega) (fun u hu => absurd hu (by omega))
      · skip
        intro hall
        refine V.iload d_F_order_77 rfl ?_
        refine V.iload_n d_F_order_79 rfl ?_
        refine V.geN (tgt := 110) d_F_order_80 (by decide) (by omega) (by omega) (fun c_80 => ?_) (fun c_80 => ?_)
        · skip
          refine V.iload d_F_order_110 rfl ?_
          refine V.iret d_F_order_112 rfl (by omega) (by omega) ?_
          exact hOk i sz (min sz LL.length) hi rfl (of_decide_eq_false c_24) esz hsz (by omega) (by omega) hall (by omega) Rb Wb Zb Ta knb nb hJq hIb
        · skip
          exact absurd c_80 (by omega)
      · skip
        intro hall
        refine V.iload d_F_order_77 rfl ?_
        refine V.iload_n d_F_order_79 rfl ?_
        refine V.geN (tgt := 110) d_F_order_80 (by decide) (by omega) (by omega) (fun c_80 => ?_) (fun c_80 => ?_)
        · skip
          exact absurd c_80 (by omega)
        · skip
          refine V.aload_n d_F_order_83 rfl ?_
          refine V.iload d_F_order_84 rfl ?_
          refine V.callU (vs := [_]) d_F_order_86 k_F_237_Row_get_SheetU (co_s (sc_sh (sh_ds i (by omega)).1)) rfl rfl (Nat.le_of_ble_eq_true rfl) (by omega) (by omega) (c_Sheet_get (a := 80 + 2 * i) (sz := sz) (sh_ds i (by omega)).1 (sh_ds i (by omega)).2 ezb hsz ?_)
          rw [rgt_in (by omega) (by omega)]
          refine V.aload_n d_F_order_89 rfl ?_
          refine V.get d_F_order_90 f_F_43_F (co_s sc_ob) rfl ?_
          refine V.get d_F_order_93 f_F_197_World (co_s (sc_wd (wb_ds 1 (by decide)).1)) rfl ?_
          refine V.iload d_F_order_96 rfl ?_
          refine V.callV1 d_F_order_98 k_F_260_Row_get_RowV (co_s (sc_rw (wb_ds 1 (by decide)).2.2.2.2.1)) (Nat.le_of_ble_eq_true rfl) (by omega) (by omega) (c_Row_get (a := wb 1 + 4) (N := 8) (sz := LL.length) (wb_ds 1 (by decide)).2.2.2.2.1 (wb_ds 1 (by decide)).2.2.2.2.2.1 ez36 hl8 (by decide) ?_)
          rw [rgt_in (by omega) (by omega)]
          refine V.icmp_ne (tgt := 110) d_F_order_101 (by decide) (fun c_101 => ?_) (fun c_101 => ?_)
          · skip
            refine V.iload d_F_order_110 rfl ?_
            refine V.iret d_F_order_112 rfl (by omega) (by omega) ?_
            exact hOk i sz u hi rfl (of_decide_eq_false c_24) esz hsz (by omega) (by omega) hall (Or.inr (Or.inr ⟨by omega, by omega, fun z => c_101 (by rw [eRb, z]; exact (hat u (by omega)).symm)⟩)) Rb Wb Zb Ta knb nb hJq hIb
          · skip
            refine V.incN d_F_order_104 rfl (by decide) ?_
            refine V.goto (tgt := 77) d_F_order_107 (by decide) ?_
            refine V.lc rfl (hn (fun q hq => ?_))
            by_cases e : q = u
            · subst e; rw [← eRb, c_101]; exact hat q (by omega)
            · exact hall q (by omega)
    · skip
      refine V.aload_n d_F_order_27 rfl ?_
      refine V.iconst_ (nI 2) d_F_order_28 (by decide +kernel) ?_
      refine V.callV1 d_F_order_29 k_F_97_F_error_FV (co_s sc_ob) (Nat.le_of_ble_eq_true rfl) (by omega) (by omega) (c_F_error (by decide) ?_)
      refine V.iret d_F_order_32 rfl (by omega) (by omega) ?_
      exact hNo i hi rfl (of_decide_eq_true c_24)
  · skip
    refine V.aload_n d_F_order_7 rfl ?_
    refine V.iconst_ (nI 1) d_F_order_8 (by decide +kernel) ?_
    refine V.callV1 d_F_order_9 k_F_97_F_error_FV (co_s sc_ob) (Nat.le_of_ble_eq_true rfl) (by omega) (by omega) (c_F_error (by decide) ?_)
    refine V.iret d_F_order_12 rfl (by omega) (by omega) ?_
    exact hE c_4
theorem hitF_pt {D : Nat → Int32} {t p : Nat} {f g : Nat → Int32} (h : f p = g p) : hitF D t f p = hitF D t g p := by unfold hitF; rw [h]
theorem hts_pt {D : Nat → Int32} {p : Nat} : ∀ (L : List Nat) (f g : Nat → Int32), f p = g p → hts D L f p = hts D L g p := by
  intro L
  induction L with
  | nil => intro f g h; exact h
  | cons t L ih => intro f g h; exact ih _ _ (hitF_pt h)
theorem dsH_pt {cv wv : Int32 → Int32 → Int32 → Int32} {N : Nat} {ps : Nat → Nat} {np : Nat} {D f g : Nat → Int32} {p : Nat} (h : f p = g p) : ∀ k, dsH cv wv N ps np D f k p = dsH cv wv N ps np D g k p := by
  intro k
  induction k with
  | zero => exact h
  | succ k ih => exact hts_pt _ _ _ ih
def sdB (g : Nat → Int32) : Nat → Int32 × Int32 := fun k => itr (fun u bl => if g (15 - u) < bl.2 then (nI (15 - u), g (15 - u)) else bl) k (nI 15, nI 999)
theorem sdB_t {g : Nat → Int32} {u : Nat} (h : g (15 - u) < (sdB g u).2) : sdB g (u + 1) = (nI (15 - u), g (15 - u)) := if_pos h
theorem sdB_f {g : Nat → Int32} {u : Nat} (h : ¬ g (15 - u) < (sdB g u).2) : sdB g (u + 1) = sdB g u := if_neg h
abbrev M_F_safe : MD := (⟨"FelledByNames", "safe", "(I)I"⟩, prog_1_method_27_code, 6, (some .int), fun _ => True)
theorem d_F_safe_0 : decode prog_1_method_27_code 0 = .ok (.iload_n 1, 1) := by decide +kernel
theorem d_F_safe_1 : decode prog_1_method_27_code 1 = .ok (.bipush 60, 2) := by decide +kernel
theorem d_F_safe_3 : decode prog_1_method_27_code 3 = .ok (.invokestatic 94, 3) := by decide +kernel
theorem d_F_safe_6 : decode prog_1_method_27_code 6 = .ok (.ifCond .ne 9, 3) := by decide +kernel
theorem d_F_safe_15 : decode prog_1_method_27_code 15 = .ok (.aload_n 0, 1) := by decide +kernel
theorem d_F_safe_16 : decode prog_1_method_27_code 16 = .ok (.getfield 43, 3) := by decide +kernel
theorem d_F_safe_19 : decode prog_1_method_27_code 19 = .ok (.aload_n 0, 1) := by decide +kernel
theorem d_F_safe_20 : decode prog_1_method_27_code 20 = .ok (.getfield 39, 3) := by decide +kernel
theorem d_F_safe_23 : decode prog_1_method_27_code 23 = .ok (.invokevirtual 212, 3) := by decide +kernel
theorem d_F_safe_26 : decode prog_1_method_27_code 26 = .ok (.aload_n 0, 1) := by decide +kernel
theorem d_F_safe_27 : decode prog_1_method_27_code 27 = .ok (.getfield 43, 3) := by decide +kernel
theorem d_F_safe_30 : decode prog_1_method_27_code 30 = .ok (.sipush 255, 3) := by decide +kernel
theorem d_F_safe_33 : decode prog_1_method_27_code 33 = .ok (.iload_n 1, 1) := by decide +kernel
theorem d_F_safe_34 : decode prog_1_method_27_code 34 = .ok (.invokevirtual 216, 3) := by decide +kernel
theorem d_F_safe_37 : decode prog_1_method_27_code 37 = .ok (.bipush 15, 2) := by decide +kernel
theorem d_F_safe_39 : decode prog_1_method_27_code 39 = .ok (.istore_n 2, 1) := by decide +kernel
theorem d_F_safe_40 : decode prog_1_method_27_code 40 = .ok (.sipush 999, 3) := by decide +kernel
theorem d_F_safe_43 : decode prog_1_method_27_code 43 = .ok (.istore_n 3, 1) := by decide +kernel
theorem d_F_safe_44 : decode prog_1_method_27_code 44 = .ok (.bipush 15, 2) := by decide +kernel
theorem d_F_safe_46 : decode prog_1_method_27_code 46 = .ok (.istore 4, 2) := by decide +kernel
theorem d_F_safe_48 : decode prog_1_method_27_code 48 = .ok (.iload 4, 2) := by decide +kernel
theorem d_F_safe_50 : decode prog_1_method_27_code 50 = .ok (.ifCond .lt 47, 3) := by decide +kernel
theorem d_F_safe_97 : decode prog_1_method_27_code 97 = .ok (.iload_n 2, 1) := by decide +kernel
theorem d_F_safe_98 : decode prog_1_method_27_code 98 = .ok (.ireturn, 1) := by decide +kernel
theorem d_F_safe_53 : decode prog_1_method_27_code 53 = .ok (.aload_n 0, 1) := by decide +kernel
theorem d_F_safe_54 : decode prog_1_method_27_code 54 = .ok (.getfield 39, 3) := by decide +kernel
theorem d_F_safe_57 : decode prog_1_method_27_code 57 = .ok (.getfield 114, 3) := by decide +kernel
theorem d_F_safe_60 : decode prog_1_method_27_code 60 = .ok (.aload_n 0, 1) := by decide +kernel
theorem d_F_safe_61 : decode prog_1_method_27_code 61 = .ok (.getfield 43, 3) := by decide +kernel
theorem d_F_safe_64 : decode prog_1_method_27_code 64 = .ok (.getfield 261, 3) := by decide +kernel
theorem f_F_261_World : fok "FelledByNames" 261 4 12 := ⟨R_World, F_World, 14, "FelledByNames$World", rfl, i_World, by decide, tm 198 (by decide +kernel) rfl, Or.inl rfl, t_World, t_World_ok, n_World⟩
theorem d_F_safe_67 : decode prog_1_method_27_code 67 = .ok (.iload 4, 2) := by decide +kernel
theorem d_F_safe_69 : decode prog_1_method_27_code 69 = .ok (.iaload, 1) := by decide +kernel
theorem d_F_safe_70 : decode prog_1_method_27_code 70 = .ok (.iadd, 1) := by decide +kernel
theorem d_F_safe_71 : decode prog_1_method_27_code 71 = .ok (.sipush 999, 3) := by decide +kernel
theorem d_F_safe_74 : decode prog_1_method_27_code 74 = .ok (.invokestatic 255, 3) := by decide +kernel
theorem d_F_safe_77 : decode prog_1_method_27_code 77 = .ok (.istore 5, 2) := by decide +kernel
theorem d_F_safe_79 : decode prog_1_method_27_code 79 = .ok (.iload 5, 2) := by decide +kernel
theorem d_F_safe_81 : decode prog_1_method_27_code 81 = .ok (.iload_n 3, 1) := by decide +kernel
theorem d_F_safe_82 : decode prog_1_method_27_code 82 = .ok (.if_icmp .ge 9, 3) := by decide +kernel
theorem d_F_safe_91 : decode prog_1_method_27_code 91 = .ok (.iinc 4 (-1), 3) := by decide +kernel
theorem d_F_safe_94 : decode prog_1_method_27_code 94 = .ok (.goto (-46), 3) := by decide +kernel
theorem d_F_safe_85 : decode prog_1_method_27_code 85 = .ok (.iload 5, 2) := by decide +kernel
theorem d_F_safe_87 : decode prog_1_method_27_code 87 = .ok (.istore_n 3, 1) := by decide +kernel
theorem d_F_safe_88 : decode prog_1_method_27_code 88 = .ok (.iload 4, 2) := by decide +kernel
theorem d_F_safe_90 : decode prog_1_method_27_code 90 = .ok (.istore_n 2, 1) := by decide +kernel
theorem d_F_safe_9 : decode prog_1_method_27_code 9 = .ok (.aload_n 0, 1) := by decide +kernel
theorem d_F_safe_10 : decode prog_1_method_27_code 10 = .ok (.iconst 1, 1) := by decide +kernel
theorem d_F_safe_11 : decode prog_1_method_27_code 11 = .ok (.invokevirtual 97, 3) := by decide +kernel
theorem d_F_safe_14 : decode prog_1_method_27_code 14 = .ok (.ireturn, 1) := by decide +kernel
set_option maxRecDepth 100000 in
theorem c_F_safe {N dy len0 len1 : Nat} {Wc0 Wc1 : Nat → Nat} {x : Int32} {l : Launch} {d n : Nat} {R W Z : Nat → Nat → Int32} {T : Nat → Nat → Nat} {kn : Kn} {h0 : HP} {Q : QT} (hI : CI R W Z T kn n N dy Wc0 len0 Wc1 len1) (hh0 : ∀ a, ¬ (88 ≤ a ∧ a < 104) → h0 a = none) (hE : wi x (nI 0) (nI 60) = false → Q (some (.int (-1000000000 - nI 1))) n (co (uA R 54 (upd (R 54) 1 (R 54 1 + nI 1))) W Z T kn h0)) (hOk : ∀ k, k ≤ 60 → x = nI k → ∀ (R1 W1 Z1 : Nat → Nat → Int32) (T1 : Nat → Nat → Nat) (kn1 : Kn) (n1 : Nat), JF R W Z R1 W1 Z1 → CI R1 W1 Z1 T1 kn1 n1 N dy Wc0 len0 Wc1 len1 → Q (some (.int (sdB (fun p => mi (W 0 3 + (dsH (cvc Wc0 len0) (wvc Wc1 len1) N (fun i => (imP (W 0) N).getD i 0) (imP (W 0) N).length (cpW (W 1) (W 0)) (fun _ => nI 0) k) p) (nI 999)) 16).1)) n1 (co R1 W1 Z1 T1 kn1 h0)) : Ct l M_F_safe (d + 13) 9 13364 [.ref 0, .int x] n (co R W Z T kn h0) Q := by
  refine Ct.of (fun _ => trivial) (by decide) (Nat.le_of_ble_eq_true rfl) ?_
  obtain ⟨hN, e0, hdy, hd9, hB0, hB1, hx0, hx1, hT, hK⟩ := id hI
  have hpl : ∀ i, i < (imP (W 0) N).length → (fun i => (imP (W 0) N).getD i 0) i < 36 := fun i hi => by
    refine imP_lt hB0 N hN _ ?_
    show (imP (W 0) N).getD i 0 ∈ _
    rw [List.getD_eq_getElem?_getD, List.getElem?_eq_getElem hi]
    exact List.getElem_mem hi
  refine V.iload_n d_F_safe_0 rfl ?_
  refine V.bipush_ (nI 60) d_F_safe_1 (by decide +kernel) ?_
  refine V.callS2 d_F_safe_3 k_F_94_F_withinS (Nat.le_of_ble_eq_true rfl) (by omega) (by omega) (c_F_within ?_)
  refine V.ifneB (tgt := 15) d_F_safe_6 (by decide) (fun c_6 => ?_) (fun c_6 => ?_)
  · skip
    obtain ⟨k, hk, rfl⟩ := wi_nat (k := 60) (by decide) c_6
    refine V.aload_n d_F_safe_15 rfl ?_
    refine V.get d_F_safe_16 f_F_43_F (co_s sc_ob) rfl ?_
    refine V.aload_n d_F_safe_19 rfl ?_
    refine V.get d_F_safe_20 f_F_39_F (co_s sc_ob) rfl ?_
    refine V.callV1 d_F_safe_23 k_F_212_World_imagine_WorldV (co_s (sc_wd (wb_ds 1 (by decide)).1)) (Nat.le_of_ble_eq_true rfl) (by omega) (by omega) (t_imagine (mi := 8) (si := 64) hI hh0 (Or.inl ⟨Nat.le_refl _, Nat.le_refl _⟩) (fun Ra Wa Za Ta na hJa hIa hna hWa hHa hZa hPa hAa hUa => ?_))
    have e1a : Wa 1 0 = nI N := by rw [hWa]; exact e0
    have eda : Wa 1 1 = nI dy := by rw [hWa]; exact hdy
    refine V.aload_n d_F_safe_26 rfl ?_
    refine V.get d_F_safe_27 f_F_43_F (co_s sc_ob) rfl ?_
    refine V.sipush_ (nI 255) d_F_safe_30 (by decide +kernel) ?_
    refine V.iload_n d_F_safe_33 rfl ?_
    refine V.callV2 d_F_safe_34 k_F_216_World_passUntilDown_WorldV (co_s (sc_wd (wb_ds 1 (by decide)).1)) (Nat.le_of_ble_eq_true rfl) (by omega) (by omega) (t_pass (nn := k) (B := 1) hIa e1a eda (by omega) hPa hZa hAa (fun _ _ => bue_le) (by omega) (fun m Rb Wb Zb knb nb hmb hsb hab hJb hIb hnb hWb hrb hzb hhb hAb hbb hPb => ?_))
    rw [hWa] at hsb hab hWb hrb hzb hhb
    refine V.bipush_ (nI 15) d_F_safe_37 (by decide +kernel) ?_
    refine V.istore_n d_F_safe_39 (by decide) ?_
    refine V.sipush_ (nI 999) d_F_safe_40 (by decide +kernel) ?_
    refine V.istore_n d_F_safe_43 (by decide) ?_
    refine V.bipush_ (nI 15) d_F_safe_44 (by decide +kernel) ?_
    refine V.istore d_F_safe_46 (by decide) ?_
    obtain ⟨-, -, q3⟩ := pud_255 (cv := cvc Wc0 len0) (wv := wvc Wc1 len1) (D := cpW (W 1) (W 0)) hN hpl hmb hsb (Ra 38)
    have eH : ∀ p, p < 16 → Rb (wb 1 + 6) p = (dsH (cvc Wc0 len0) (wvc Wc1 len1) N (fun i => (imP (W 0) N).getD i 0) (imP (W 0) N).length (cpW (W 1) (W 0)) (fun _ => nI 0) k) p := fun p hp => by
      have e2 : Rb 38 p = _ := congrFun hhb p
      refine e2.trans ?_
      rw [← q3]
      exact dsH_pt (hHa p hp) k
    have eW3 : Wb 0 3 = W 0 3 := by rw [(hJa.tr hJb).2.2 0 (by decide)]
    refine V.lc (ls' := [(0, .ref 0), (2, .int (sdB (fun p => mi (W 0 3 + (dsH (cvc Wc0 len0) (wvc Wc1 len1) N (fun i => (imP (W 0) N).getD i 0) (imP (W 0) N).length (cpW (W 1) (W 0)) (fun _ => nI 0) k) p) (nI 999)) 0).1), (3, .int (sdB (fun p => mi (W 0 3 + (dsH (cvc Wc0 len0) (wvc Wc1 len1) N (fun i => (imP (W 0) N).getD i 0) (imP (W 0) N).length (cpW (W 1) (W 0)) (fun _ => nI 0) k) p) (nI 999)) 0).2), (4, .int (tpv (16 - 0)))]) rfl ?_
    refine up_to (G := fun u => V l M_F_safe (d + 13) 9 13364 48 [(0, .ref 0), (2, .int (sdB (fun p => mi (W 0 3 + (dsH (cvc Wc0 len0) (wvc Wc1 len1) N (fun i => (imP (W 0) N).getD i 0) (imP (W 0) N).length (cpW (W 1) (W 0)) (fun _ => nI 0) k) p) (nI 999)) u).1), (3, .int (sdB (fun p => mi (W 0 3 + (dsH (cvc Wc0 len0) (wvc Wc1 len1) N (fun i => (imP (W 0) N).getD i 0) (imP (W 0) N).length (cpW (W 1) (W 0)) (fun _ => nI 0) k) p) (nI 999)) u).2), (4, .int (tpv (16 - u)))] [] nb (co Rb Wb Zb Ta knb h0) (0 + 8 + 1) (0 + 64 + 13300 * 1) Q) (16) ?_ (fun u hu hn => ?_) 0 (by omega)
    · skip
      refine V.iload d_F_safe_48 rfl ?_
      refine V.if_lt (tgt := 97) d_F_safe_50 (by decide) (fun c_50 => ?_) (fun c_50 => ?_)
      · skip
        refine V.iload_n d_F_safe_97 rfl ?_
        refine V.iret d_F_safe_98 rfl (by omega) (by omega) ?_
        exact hOk k hk rfl Rb Wb Zb Ta knb nb (hJa.tr hJb) hIb
      · skip
        exact absurd (show tpv (16 - 16) < 0 by decide) c_50
    · skip
      have ev : tpv (16 - u) = nI (15 - u) := (tpv_n (by omega)).trans (congrArg nI (by omega))
      have hn' := hn
      rw [show 16 - (u + 1) = 15 - u by omega] at hn'
      rw [ev]
      refine V.iload d_F_safe_48 rfl ?_
      refine V.if_lt (tgt := 97) d_F_safe_50 (by decide) (fun c_50 => ?_) (fun c_50 => ?_)
      · skip
        exact absurd c_50 (nI_pos (by omega))
      · skip
        refine V.aload_n d_F_safe_53 rfl ?_
        refine V.get d_F_safe_54 f_F_39_F (co_s sc_ob) rfl ?_
        refine V.get d_F_safe_57 f_F_114_World (co_s (sc_wd (wb_ds 0 (by decide)).1)) rfl ?_
        refine V.top (y := W 0 3) (eW3) ?_
        refine V.aload_n d_F_safe_60 rfl ?_
        refine V.get d_F_safe_61 f_F_43_F (co_s sc_ob) rfl ?_
        refine V.get d_F_safe_64 f_F_261_World (co_s (sc_wd (wb_ds 1 (by decide)).1)) rfl ?_
        refine V.iload d_F_safe_67 rfl ?_
        refine V.ialdN d_F_safe_69 (co_s (sc_ar (wb_ds 1 (by decide)).2.2.2.2.2.2.1)) (by omega) (by omega) ?_
        refine V.top (y := (dsH (cvc Wc0 len0) (wvc Wc1 len1) N (fun i => (imP (W 0) N).getD i 0) (imP (W 0) N).length (cpW (W 1) (W 0)) (fun _ => nI 0) k) (15 - u)) (eH (15 - u) (by omega)) ?_
        refine V.iadd d_F_safe_70 ?_
        refine V.sipush_ (nI 999) d_F_safe_71 (by decide +kernel) ?_
        refine V.mmin d_F_safe_74 (tm 725 (by decide +kernel) rfl) (Nat.le_of_ble_eq_true rfl) (by omega) (by omega) ?_
        refine V.istore d_F_safe_77 (by decide) ?_
        refine V.iload d_F_safe_79 rfl ?_
        refine V.iload_n d_F_safe_81 rfl ?_
        refine V.icmp_ge (tgt := 91) d_F_safe_82 (by decide) (fun c_82 => ?_) (fun c_82 => ?_)
        · skip
          refine V.iinc d_F_safe_91 rfl (tpv_dec (15 - u)) (by decide) ?_
          refine V.goto (tgt := 48) d_F_safe_94 (by decide) ?_
          rw [sdB_f (Int32.not_lt.mpr c_82)] at hn'
          exact V.lc rfl hn'
        · skip
          refine V.iload d_F_safe_85 rfl ?_
          refine V.istore_n d_F_safe_87 (by decide) ?_
          refine V.iload d_F_safe_88 rfl ?_
          refine V.istore_n d_F_safe_90 (by decide) ?_
          refine V.iinc d_F_safe_91 rfl (tpv_dec (15 - u)) (by decide) ?_
          refine V.goto (tgt := 48) d_F_safe_94 (by decide) ?_
          rw [sdB_t (Int32.not_le.mp c_82)] at hn'
          exact V.lc rfl hn'
  · skip
    refine V.aload_n d_F_safe_9 rfl ?_
    refine V.iconst_ (nI 1) d_F_safe_10 (by decide +kernel) ?_
    refine V.callV1 d_F_safe_11 k_F_97_F_error_FV (co_s sc_ob) (Nat.le_of_ble_eq_true rfl) (by omega) (by omega) (c_F_error (by decide) ?_)
    refine V.iret d_F_safe_14 rfl (by omega) (by omega) ?_
    exact hE c_6
def cdP (a r : Nat) : Prop := 1 ≤ r ∧ (r = 1 ∨ (a % r = 0 ∧ 10 % r = 0)) ∧ ∀ q, q ≤ 10 → r < q → ¬ (a % q = 0 ∧ 10 % q = 0)
abbrev M_F_commonDivisor : MD := (⟨"FelledByNames", "commonDivisor", "(II)I"⟩, prog_1_method_50_code, 3, (some .int), fun _ => True)
theorem mx_10 {a : Nat} (ha : a ≤ 10) : mx (nI a) (nI 10) = nI 10 := by
  unfold mx
  by_cases h : nI a < nI 10
  · rw [if_pos h]
  · rw [if_neg h]
    have : a = 10 := by have := mt (nI_ltI (by omega) (by decide)).mpr h; omega
    rw [this]
theorem d_F_commonDivisor_0 : decode prog_1_method_50_code 0 = .ok (.iload_n 0, 1) := by decide +kernel
theorem d_F_commonDivisor_1 : decode prog_1_method_50_code 1 = .ok (.iload_n 1, 1) := by decide +kernel
theorem d_F_commonDivisor_2 : decode prog_1_method_50_code 2 = .ok (.invokestatic 323, 3) := by decide +kernel
theorem d_F_commonDivisor_5 : decode prog_1_method_50_code 5 = .ok (.istore_n 2, 1) := by decide +kernel
theorem d_F_commonDivisor_6 : decode prog_1_method_50_code 6 = .ok (.iload_n 2, 1) := by decide +kernel
theorem d_F_commonDivisor_7 : decode prog_1_method_50_code 7 = .ok (.iconst 1, 1) := by decide +kernel
theorem d_F_commonDivisor_8 : decode prog_1_method_50_code 8 = .ok (.if_icmp .le 23, 3) := by decide +kernel
theorem d_F_commonDivisor_31 : decode prog_1_method_50_code 31 = .ok (.iconst 1, 1) := by decide +kernel
theorem d_F_commonDivisor_32 : decode prog_1_method_50_code 32 = .ok (.ireturn, 1) := by decide +kernel
theorem d_F_commonDivisor_11 : decode prog_1_method_50_code 11 = .ok (.iload_n 0, 1) := by decide +kernel
theorem d_F_commonDivisor_12 : decode prog_1_method_50_code 12 = .ok (.iload_n 2, 1) := by decide +kernel
theorem d_F_commonDivisor_13 : decode prog_1_method_50_code 13 = .ok (.irem, 1) := by decide +kernel
theorem d_F_commonDivisor_14 : decode prog_1_method_50_code 14 = .ok (.ifCond .ne 11, 3) := by decide +kernel
theorem d_F_commonDivisor_25 : decode prog_1_method_50_code 25 = .ok (.iinc 2 (-1), 3) := by decide +kernel
theorem d_F_commonDivisor_28 : decode prog_1_method_50_code 28 = .ok (.goto (-22), 3) := by decide +kernel
theorem d_F_commonDivisor_17 : decode prog_1_method_50_code 17 = .ok (.iload_n 1, 1) := by decide +kernel
theorem d_F_commonDivisor_18 : decode prog_1_method_50_code 18 = .ok (.iload_n 2, 1) := by decide +kernel
theorem d_F_commonDivisor_19 : decode prog_1_method_50_code 19 = .ok (.irem, 1) := by decide +kernel
theorem d_F_commonDivisor_20 : decode prog_1_method_50_code 20 = .ok (.ifCond .ne 5, 3) := by decide +kernel
theorem d_F_commonDivisor_23 : decode prog_1_method_50_code 23 = .ok (.iload_n 2, 1) := by decide +kernel
theorem d_F_commonDivisor_24 : decode prog_1_method_50_code 24 = .ok (.ireturn, 1) := by decide +kernel
set_option maxRecDepth 100000 in
theorem c_F_commonDivisor {a : Nat} {l : Launch} {d n : Nat} {h : HP} {Q : QT} (ha : a ≤ 10) (hQ : ∀ r, r ≤ 10 → cdP a r → Q (some (.int (nI r))) n h) : Ct l M_F_commonDivisor (d + 1) 0 0 [.int (nI a), .int (nI 10)] n h Q := by
  refine Ct.of (fun _ => trivial) (by decide) (Nat.le_of_ble_eq_true rfl) ?_
  refine V.iload_n d_F_commonDivisor_0 rfl ?_
  refine V.iload_n d_F_commonDivisor_1 rfl ?_
  refine V.mmax d_F_commonDivisor_2 (tm 726 (by decide +kernel) rfl) (Nat.le_of_ble_eq_true rfl) (by omega) (by omega) ?_
  refine V.top (y := nI 10) (mx_10 ha) ?_
  refine V.istore_n d_F_commonDivisor_5 (by decide) ?_
  refine V.lc (ls' := [(0, .int (nI a)), (1, .int (nI 10)), (2, .int (nI (10 - 0)))]) rfl ?_
  refine up_to (G := fun u => (∀ q, q ≤ 10 → 10 - u < q → ¬ (a % q = 0 ∧ 10 % q = 0)) → V l M_F_commonDivisor (d + 1) 0 0 6 [(0, .int (nI a)), (1, .int (nI 10)), (2, .int (nI (10 - u)))] [] n h 0 0 Q) (9) ?_ (fun u hu hn => ?_) 0 (by omega) (fun q hq hlt => absurd hlt (by omega))
  · skip
    intro hall
    refine V.iload_n d_F_commonDivisor_6 rfl ?_
    refine V.iconst_ (nI 1) d_F_commonDivisor_7 (by decide +kernel) ?_
    refine V.leN (tgt := 31) d_F_commonDivisor_8 (by decide) (by omega) (by omega) (fun c_8 => ?_) (fun c_8 => ?_)
    · skip
      refine V.iconst_ (nI 1) d_F_commonDivisor_31 (by decide +kernel) ?_
      refine V.iret d_F_commonDivisor_32 rfl (Nat.le_of_ble_eq_true rfl) (Nat.le_of_ble_eq_true rfl) ?_
      exact hQ 1 (by omega) ⟨Nat.le_refl _, Or.inl rfl, fun q hq h1 => hall q hq (by omega)⟩
    · skip
      exact absurd c_8 (by omega)
  · skip
    intro hall
    refine V.iload_n d_F_commonDivisor_6 rfl ?_
    refine V.iconst_ (nI 1) d_F_commonDivisor_7 (by decide +kernel) ?_
    refine V.leN (tgt := 31) d_F_commonDivisor_8 (by decide) (by omega) (by omega) (fun c_8 => ?_) (fun c_8 => ?_)
    · skip
      exact absurd c_8 (by omega)
    · skip
      refine V.iload_n d_F_commonDivisor_11 rfl ?_
      refine V.iload_n d_F_commonDivisor_12 rfl ?_
      refine V.remN d_F_commonDivisor_13 (by omega) (by omega) (by omega) ?_
      refine V.if_ne (tgt := 25) d_F_commonDivisor_14 (by decide) (fun c_14 => ?_) (fun c_14 => ?_)
      · skip
        refine V.decN d_F_commonDivisor_25 rfl (by omega) (by decide) ?_
        refine V.goto (tgt := 6) d_F_commonDivisor_28 (by decide) ?_
        rw [show 10 - u - 1 = 10 - (u + 1) by omega]
        refine V.lc rfl (hn (fun q hq hlt => ?_))
        by_cases e : q = 10 - u
        · rw [e]; exact fun z => c_14 (by rw [z.1]; rfl)
        · exact hall q hq (by omega)
      · skip
        refine V.iload_n d_F_commonDivisor_17 rfl ?_
        refine V.iload_n d_F_commonDivisor_18 rfl ?_
        refine V.remN d_F_commonDivisor_19 (by omega) (by omega) (by omega) ?_
        refine V.if_ne (tgt := 25) d_F_commonDivisor_20 (by decide) (fun c_20 => ?_) (fun c_20 => ?_)
        · skip
          refine V.decN d_F_commonDivisor_25 rfl (by omega) (by decide) ?_
          refine V.goto (tgt := 6) d_F_commonDivisor_28 (by decide) ?_
          rw [show 10 - u - 1 = 10 - (u + 1) by omega]
          refine V.lc rfl (hn (fun q hq hlt => ?_))
          by_cases e : q = 10 - u
          · rw [e]; exact fun z => c_20 (by rw [z.2]; rfl)
          · exact hall q hq (by omega)
        · skip
          refine V.iload_n d_F_commonDivisor_23 rfl ?_
          refine V.iret d_F_commonDivisor_24 rfl (Nat.le_of_ble_eq_true rfl) (Nat.le_of_ble_eq_true rfl) ?_
          exact hQ (10 - u) (by omega) ⟨by omega, Or.inr ⟨(nI_eq (by have := Nat.mod_lt a (show 10 - u > 0 by omega); omega) (by decide)).mp (show nI (a % (10 - u)) = nI 0 from c_14), (nI_eq (by have := Nat.mod_lt 10 (show 10 - u > 0 by omega); omega) (by decide)).mp (show nI (10 % (10 - u)) = nI 0 from c_20)⟩, hall⟩
def ocB (P : Nat → Bool) : Nat → Nat := fun k => itr (fun u m => if P u = true then m + 1 else m) k 0
theorem ocB_t {P : Nat → Bool} {u : Nat} (h : P u = true) : ocB P (u + 1) = ocB P u + 1 := if_pos h
theorem ocB_f {P : Nat → Bool} {u : Nat} (h : P u = false) : ocB P (u + 1) = ocB P u := if_neg (by rw [h]; decide)
theorem ocB_le {P : Nat → Bool} : ∀ k, ocB P k ≤ k := by
  intro k
  induction k with
  | zero => exact Nat.le_refl _
  | succ k ih =>
    by_cases h : P k = true
    · rw [ocB_t h]; omega
    · rw [ocB_f (Bool.eq_false_iff.mpr h)]; omega
def odW (D : Nat → Int32) (a b v : Nat) : Nat → Int32 := upd (upd D (8 + (a * 6 + b)) (nI (10 * v))) (8 + (b * 6 + a)) (nI (10 * v))
theorem odW_n {D : Nat → Int32} {a b v j : Nat} (ha : a ≤ 5) (hb : b ≤ 5) (hj : j < 8 ∨ 44 ≤ j) : odW D a b v j = D j := by unfold odW; rw [pk_un (by omega), pk_un (by omega)]
theorem WB.od {D : Nat → Int32} {a b v : Nat} (h : WB D) (ha : a ≤ 5) (hb : b ≤ 5) (hv : v ≤ 9) : WB (odW D a b v) := (h.uh (by omega) ⟨10 * v, by omega, rfl⟩).uh (by omega) ⟨10 * v, by omega, rfl⟩
abbrev M_F_odds : MD := (⟨"FelledByNames", "odds", "(III)I"⟩, prog_1_method_28_code, 7, (some .int), fun _ => True)
theorem AG.od {N : Nat} {P : Nat → Prop} {D E : Nat → Int32} {a b v : Nat} (h : AG N P D E) : AG N P (odW D a b v) (odW E a b v) := (h.u).u
theorem d_F_odds_0 : decode prog_1_method_28_code 0 = .ok (.aload_n 0, 1) := by decide +kernel
theorem d_F_odds_1 : decode prog_1_method_28_code 1 = .ok (.iload_n 1, 1) := by decide +kernel
theorem d_F_odds_2 : decode prog_1_method_28_code 2 = .ok (.invokevirtual 152, 3) := by decide +kernel
theorem d_F_odds_5 : decode prog_1_method_28_code 5 = .ok (.ifCond .eq 20, 3) := by decide +kernel
theorem d_F_odds_25 : decode prog_1_method_28_code 25 = .ok (.aload_n 0, 1) := by decide +kernel
theorem d_F_odds_26 : decode prog_1_method_28_code 26 = .ok (.iconst 1, 1) := by decide +kernel
theorem d_F_odds_27 : decode prog_1_method_28_code 27 = .ok (.invokevirtual 97, 3) := by decide +kernel
theorem d_F_odds_30 : decode prog_1_method_28_code 30 = .ok (.ireturn, 1) := by decide +kernel
theorem d_F_odds_8 : decode prog_1_method_28_code 8 = .ok (.iload_n 2, 1) := by decide +kernel
theorem d_F_odds_9 : decode prog_1_method_28_code 9 = .ok (.bipush 60, 2) := by decide +kernel
theorem d_F_odds_11 : decode prog_1_method_28_code 11 = .ok (.invokestatic 94, 3) := by decide +kernel
theorem d_F_odds_14 : decode prog_1_method_28_code 14 = .ok (.ifCond .eq 11, 3) := by decide +kernel
theorem d_F_odds_17 : decode prog_1_method_28_code 17 = .ok (.iload_n 3, 1) := by decide +kernel
theorem d_F_odds_18 : decode prog_1_method_28_code 18 = .ok (.iconst 1, 1) := by decide +kernel
theorem d_F_odds_19 : decode prog_1_method_28_code 19 = .ok (.invokestatic 94, 3) := by decide +kernel
theorem d_F_odds_22 : decode prog_1_method_28_code 22 = .ok (.ifCond .ne 9, 3) := by decide +kernel
theorem d_F_odds_31 : decode prog_1_method_28_code 31 = .ok (.aload_n 0, 1) := by decide +kernel
theorem d_F_odds_32 : decode prog_1_method_28_code 32 = .ok (.getfield 39, 3) := by decide +kernel
theorem d_F_odds_35 : decode prog_1_method_28_code 35 = .ok (.getfield 145, 3) := by decide +kernel
theorem d_F_odds_38 : decode prog_1_method_28_code 38 = .ok (.iload_n 1, 1) := by decide +kernel
theorem d_F_odds_39 : decode prog_1_method_28_code 39 = .ok (.aaload, 1) := by decide +kernel
theorem d_F_odds_40 : decode prog_1_method_28_code 40 = .ok (.astore 4, 2) := by decide +kernel
theorem d_F_odds_42 : decode prog_1_method_28_code 42 = .ok (.iconst 0, 1) := by decide +kernel
theorem d_F_odds_43 : decode prog_1_method_28_code 43 = .ok (.istore 5, 2) := by decide +kernel
theorem d_F_odds_45 : decode prog_1_method_28_code 45 = .ok (.iconst 0, 1) := by decide +kernel
theorem d_F_odds_46 : decode prog_1_method_28_code 46 = .ok (.istore 6, 2) := by decide +kernel
theorem d_F_odds_48 : decode prog_1_method_28_code 48 = .ok (.iload 6, 2) := by decide +kernel
theorem d_F_odds_50 : decode prog_1_method_28_code 50 = .ok (.bipush 90, 2) := by decide +kernel
theorem d_F_odds_52 : decode prog_1_method_28_code 52 = .ok (.if_icmp .gt 95, 3) := by decide +kernel
theorem d_F_odds_147 : decode prog_1_method_28_code 147 = .ok (.iload 5, 2) := by decide +kernel
theorem d_F_odds_149 : decode prog_1_method_28_code 149 = .ok (.bipush 10, 2) := by decide +kernel
theorem d_F_odds_151 : decode prog_1_method_28_code 151 = .ok (.invokestatic 264, 3) := by decide +kernel
theorem kB_F_commonDivisor : kB M_F_commonDivisor 2 := ⟨tm 1 (by decide +kernel) rfl, tm 881 (by decide +kernel) rfl, ⟨by decide, by decide, by decide +kernel⟩, by decide⟩
theorem k_F_264_F_commonDivisorS : kS "FelledByNames" 264 M_F_commonDivisor 2 := ⟨kB_F_commonDivisor, tm 879 (by decide +kernel) rfl, tm 880 (by decide +kernel) rfl⟩
theorem d_F_odds_154 : decode prog_1_method_28_code 154 = .ok (.istore 6, 2) := by decide +kernel
theorem d_F_odds_156 : decode prog_1_method_28_code 156 = .ok (.iload_n 3, 1) := by decide +kernel
theorem d_F_odds_157 : decode prog_1_method_28_code 157 = .ok (.ifCond .ne 8, 3) := by decide +kernel
theorem d_F_odds_165 : decode prog_1_method_28_code 165 = .ok (.bipush 10, 2) := by decide +kernel
theorem d_F_odds_167 : decode prog_1_method_28_code 167 = .ok (.iload 6, 2) := by decide +kernel
theorem d_F_odds_169 : decode prog_1_method_28_code 169 = .ok (.idiv, 1) := by decide +kernel
theorem d_F_odds_170 : decode prog_1_method_28_code 170 = .ok (.ireturn, 1) := by decide +kernel
theorem d_F_odds_160 : decode prog_1_method_28_code 160 = .ok (.iload 5, 2) := by decide +kernel
theorem d_F_odds_162 : decode prog_1_method_28_code 162 = .ok (.goto 5, 3) := by decide +kernel
theorem d_F_odds_55 : decode prog_1_method_28_code 55 = .ok (.aload_n 0, 1) := by decide +kernel
theorem d_F_odds_56 : decode prog_1_method_28_code 56 = .ok (.getfield 43, 3) := by decide +kernel
theorem d_F_odds_59 : decode prog_1_method_28_code 59 = .ok (.aload_n 0, 1) := by decide +kernel
theorem d_F_odds_60 : decode prog_1_method_28_code 60 = .ok (.getfield 39, 3) := by decide +kernel
theorem d_F_odds_63 : decode prog_1_method_28_code 63 = .ok (.invokevirtual 212, 3) := by decide +kernel
theorem d_F_odds_66 : decode prog_1_method_28_code 66 = .ok (.aload_n 0, 1) := by decide +kernel
theorem d_F_odds_67 : decode prog_1_method_28_code 67 = .ok (.getfield 43, 3) := by decide +kernel
theorem d_F_odds_70 : decode prog_1_method_28_code 70 = .ok (.getfield 101, 3) := by decide +kernel
theorem d_F_odds_73 : decode prog_1_method_28_code 73 = .ok (.aload 4, 2) := by decide +kernel
theorem d_F_odds_75 : decode prog_1_method_28_code 75 = .ok (.getfield 133, 3) := by decide +kernel
theorem d_F_odds_78 : decode prog_1_method_28_code 78 = .ok (.aload 4, 2) := by decide +kernel
theorem d_F_odds_80 : decode prog_1_method_28_code 80 = .ok (.getfield 136, 3) := by decide +kernel
theorem d_F_odds_83 : decode prog_1_method_28_code 83 = .ok (.invokestatic 104, 3) := by decide +kernel
theorem d_F_odds_86 : decode prog_1_method_28_code 86 = .ok (.iload 6, 2) := by decide +kernel
theorem d_F_odds_88 : decode prog_1_method_28_code 88 = .ok (.iastore, 1) := by decide +kernel
theorem d_F_odds_89 : decode prog_1_method_28_code 89 = .ok (.aload_n 0, 1) := by decide +kernel
theorem d_F_odds_90 : decode prog_1_method_28_code 90 = .ok (.getfield 43, 3) := by decide +kernel
theorem d_F_odds_93 : decode prog_1_method_28_code 93 = .ok (.getfield 101, 3) := by decide +kernel
theorem d_F_odds_96 : decode prog_1_method_28_code 96 = .ok (.aload 4, 2) := by decide +kernel
theorem d_F_odds_98 : decode prog_1_method_28_code 98 = .ok (.getfield 136, 3) := by decide +kernel
theorem d_F_odds_101 : decode prog_1_method_28_code 101 = .ok (.aload 4, 2) := by decide +kernel
theorem d_F_odds_103 : decode prog_1_method_28_code 103 = .ok (.getfield 133, 3) := by decide +kernel
theorem d_F_odds_106 : decode prog_1_method_28_code 106 = .ok (.invokestatic 104, 3) := by decide +kernel
theorem d_F_odds_109 : decode prog_1_method_28_code 109 = .ok (.iload 6, 2) := by decide +kernel
theorem d_F_odds_111 : decode prog_1_method_28_code 111 = .ok (.iastore, 1) := by decide +kernel
theorem d_F_odds_112 : decode prog_1_method_28_code 112 = .ok (.aload_n 0, 1) := by decide +kernel
theorem d_F_odds_113 : decode prog_1_method_28_code 113 = .ok (.getfield 43, 3) := by decide +kernel
theorem d_F_odds_116 : decode prog_1_method_28_code 116 = .ok (.iconst 1, 1) := by decide +kernel
theorem d_F_odds_117 : decode prog_1_method_28_code 117 = .ok (.iload_n 1, 1) := by decide +kernel
theorem d_F_odds_118 : decode prog_1_method_28_code 118 = .ok (.ishl, 1) := by decide +kernel
theorem d_F_odds_119 : decode prog_1_method_28_code 119 = .ok (.iload_n 2, 1) := by decide +kernel
theorem d_F_odds_120 : decode prog_1_method_28_code 120 = .ok (.invokevirtual 216, 3) := by decide +kernel
theorem d_F_odds_123 : decode prog_1_method_28_code 123 = .ok (.aload_n 0, 1) := by decide +kernel
theorem d_F_odds_124 : decode prog_1_method_28_code 124 = .ok (.getfield 43, 3) := by decide +kernel
theorem d_F_odds_127 : decode prog_1_method_28_code 127 = .ok (.getfield 145, 3) := by decide +kernel
theorem d_F_odds_130 : decode prog_1_method_28_code 130 = .ok (.iload_n 1, 1) := by decide +kernel
theorem d_F_odds_131 : decode prog_1_method_28_code 131 = .ok (.aaload, 1) := by decide +kernel
theorem d_F_odds_132 : decode prog_1_method_28_code 132 = .ok (.getfield 159, 3) := by decide +kernel
theorem d_F_odds_135 : decode prog_1_method_28_code 135 = .ok (.ifCond .ne 6, 3) := by decide +kernel
theorem d_F_odds_141 : decode prog_1_method_28_code 141 = .ok (.iinc 6 10, 3) := by decide +kernel
theorem d_F_odds_144 : decode prog_1_method_28_code 144 = .ok (.goto (-96), 3) := by decide +kernel
theorem d_F_odds_138 : decode prog_1_method_28_code 138 = .ok (.iinc 5 1, 3) := by decide +kernel
set_option maxRecDepth 100000 in
theorem c_F_odds {N dy len0 len1 : Nat} {Wc0 Wc1 : Nat → Nat} {x y z : Int32} {l : Launch} {d n : Nat} {R W Z : Nat → Nat → Int32} {T : Nat → Nat → Nat} {kn : Kn} {h0 : HP} {Q : QT} (hI : CI R W Z T kn n N dy Wc0 len0 Wc1 len1) (hh0 : ∀ a, ¬ (88 ≤ a ∧ a < 104) → h0 a = none) (hE : (wi x (nI 0) (nI N - nI 1) && wi y (nI 0) (nI 60) && wi z (nI 0) (nI 1)) = false → Q (some (.int (-1000000000 - nI 1))) n (co (uA R 54 (upd (R 54) 1 (R 54 1 + nI 1))) W Z T kn h0)) (hOk : ∀ i k w r, i < N → k ≤ 60 → w ≤ 1 → x = nI i → y = nI k → z = nI w → r ≤ 10 → cdP (ocB (fun v => decide (¬ (dsG (cvc Wc0 len0) (wvc Wc1 len1) N (fun i => (imP (W 0) N).getD i 0) (imP (W 0) N).length (odW (W 0) (tN (W 0) (50 + 7 * i + 2)) (tN (W 0) (50 + 7 * i + 3)) v) k).1 (50 + 7 * i + 6) = nI 1)) 10) r → ∀ (R1 W1 Z1 : Nat → Nat → Int32) (T1 : Nat → Nat → Nat) (kn1 : Kn) (n1 : Nat), JF R W Z R1 W1 Z1 → CI R1 W1 Z1 T1 kn1 n1 N dy Wc0 len0 Wc1 len1 → Q (some (.int ((if w = 0 then nI (ocB (fun v => decide (¬ (dsG (cvc Wc0 len0) (wvc Wc1 len1) N (fun i => (imP (W 0) N).getD i 0) (imP (W 0) N).length (odW (W 0) (tN (W 0) (50 + 7 * i + 2)) (tN (W 0) (50 + 7 * i + 3)) v) k).1 (50 + 7 * i + 6) = nI 1)) 10) else nI 10) / nI r))) n1 (co R1 W1 Z1 T1 kn1 h0)) : Ct l M_F_odds (d + 14) 9 13364 [.ref 0, .int x, .int y, .int z] n (co R W Z T kn h0) Q := by
  refine Ct.of (fun _ => trivial) (by decide) (Nat.le_of_ble_eq_true rfl) ?_
  obtain ⟨hN, e0, hdy, hd9, hB0, hB1, hx0, hx1, hT, hK⟩ := id hI
  have hpl : ∀ i, i < (imP (W 0) N).length → (fun i => (imP (W 0) N).getD i 0) i < 36 := fun i hi => by
    refine imP_lt hB0 N hN _ ?_
    show (imP (W 0) N).getD i 0 ∈ _
    rw [List.getD_eq_getElem?_getD, List.getElem?_eq_getElem hi]
    exact List.getElem_mem hi
  refine V.aload_n d_F_odds_0 rfl ?_
  refine V.iload_n d_F_odds_1 rfl ?_
  refine V.callV1 d_F_odds_2 k_F_152_F_isTree_FV (co_s sc_ob) (Nat.le_of_ble_eq_true rfl) (by omega) (by omega) (c_F_isTree ?_)
  refine V.ifeqB (tgt := 25) d_F_odds_5 (by decide) (fun c_5 => ?_) (fun c_5 => ?_)
  · skip
    refine V.aload_n d_F_odds_25 rfl ?_
    refine V.iconst_ (nI 1) d_F_odds_26 (by decide +kernel) ?_
    refine V.callV1 d_F_odds_27 k_F_97_F_error_FV (co_s sc_ob) (Nat.le_of_ble_eq_true rfl) (by omega) (by omega) (c_F_error (by decide) ?_)
    refine V.iret d_F_odds_30 rfl (by omega) (by omega) ?_
    rw [e0] at c_5
    exact hE (by simp only [c_5, Bool.and_false, Bool.false_and, Bool.and_true, Bool.true_and])
  · skip
    refine V.iload_n d_F_odds_8 rfl ?_
    refine V.bipush_ (nI 60) d_F_odds_9 (by decide +kernel) ?_
    refine V.callS2 d_F_odds_11 k_F_94_F_withinS (Nat.le_of_ble_eq_true rfl) (by omega) (by omega) (c_F_within ?_)
    refine V.ifeqB (tgt := 25) d_F_odds_14 (by decide) (fun c_14 => ?_) (fun c_14 => ?_)
    · skip
      refine V.aload_n d_F_odds_25 rfl ?_
      refine V.iconst_ (nI 1) d_F_odds_26 (by decide +kernel) ?_
      refine V.callV1 d_F_odds_27 k_F_97_F_error_FV (co_s sc_ob) (Nat.le_of_ble_eq_true rfl) (by omega) (by omega) (c_F_error (by decide) ?_)
      refine V.iret d_F_odds_30 rfl (by omega) (by omega) ?_
      rw [e0] at c_5
      exact hE (by simp only [c_5, c_14, Bool.and_false, Bool.false_and, Bool.and_true, Bool.true_and])
    · skip
      refine V.iload_n d_F_odds_17 rfl ?_
      refine V.iconst_ (nI 1) d_F_odds_18 (by decide +kernel) ?_
      refine V.callS2 d_F_odds_19 k_F_94_F_withinS (Nat.le_of_ble_eq_true rfl) (by omega) (by omega) (c_F_within ?_)
      refine V.ifneB (tgt := 31) d_F_odds_22 (by decide) (fun c_22 => ?_) (fun c_22 => ?_)
      · skip
        rw [e0] at c_5
        obtain ⟨i, hi, rfl⟩ := tre_nat hN c_5
        have hi8 : i < 8 := by omega
        obtain ⟨k, hk, rfl⟩ := wi_nat (k := 60) (by decide) c_14
        obtain ⟨w, hw1, rfl⟩ := wi_nat (k := 1) (by decide) c_22
        obtain ⟨f2, b2⟩ := (hB0.k2 hi8).t (by decide)
        obtain ⟨f3, b3⟩ := (hB0.k3 hi8).t (by decide)
        refine V.aload_n d_F_odds_31 rfl ?_
        refine V.get d_F_odds_32 f_F_39_F (co_s sc_ob) rfl ?_
        refine V.get d_F_odds_35 f_F_145_World (co_s (sc_wd (wb_ds 0 (by decide)).1)) rfl ?_
        refine V.iload_n d_F_odds_38 rfl ?_
        refine V.aald d_F_odds_39 (Or.inl rfl) (co_s (sc_tr (wb_ds 0 (by decide)).2.2.2.1)) (vp_in_nI (by omega) (by omega)) (by rw [icl (by omega)]; exact if_pos (by omega)) ?_
        refine V.astore d_F_odds_40 (by decide) ?_
        refine V.iconst_ (nI 0) d_F_odds_42 (by decide +kernel) ?_
        refine V.istore d_F_odds_43 (by decide) ?_
        refine V.iconst_ (nI 0) d_F_odds_45 (by decide +kernel) ?_
        refine V.istore d_F_odds_46 (by decide) ?_
        refine V.lc (ls' := [(0, .ref 0), (1, .int (nI i)), (2, .int (nI k)), (3, .int (nI w)), (4, .ref (T 0 i)), (5, .int (nI (ocB (fun v => decide (¬ (dsG (cvc Wc0 len0) (wvc Wc1 len1) N (fun i => (imP (W 0) N).getD i 0) (imP (W 0) N).length (odW (W 0) (tN (W 0) (50 + 7 * i + 2)) (tN (W 0) (50 + 7 * i + 3)) v) k).1 (50 + 7 * i + 6) = nI 1)) 0))), (6, .int (nI (10 * 0)))]) rfl ?_
        refine V.lc (ls' := [(0, .ref 0), (1, .int (nI i)), (2, .int (nI k)), (3, .int (nI w)), (4, .ref (T 0 i)), (5, .int (nI (ocB (fun v => decide (¬ (dsG (cvc Wc0 len0) (wvc Wc1 len1) N (fun i => (imP (W 0) N).getD i 0) (imP (W 0) N).length (odW (W 0) (tN (W 0) (50 + 7 * i + 2)) (tN (W 0) (50 + 7 * i + 3)) v) k).1 (50 + 7 * i + 6) = nI 1)) 0))), (6, .int (nI (10 * 0)))]) rfl ?_
        refine up_to (G := fun u => ∀ (R1 W1 Z1 : Nat → Nat → Int32) (T1 : Nat → Nat → Nat) (kn1 : Kn) (n1 c s : Nat), JF R W Z R1 W1 Z1 → CI R1 W1 Z1 T1 kn1 n1 N dy Wc0 len0 Wc1 len1 → (∀ i, T1 0 i = T 0 i) → (∃ mi si, ((8 ≤ mi ∧ 64 ≤ si) ∨ AL W1) ∧ c + mi + bue len0 (imP (W 0) N).length kn1 ≤ 9 ∧ s + si + 13300 * bue len0 (imP (W 0) N).length kn1 ≤ 13364) → V l M_F_odds (d + 14) 9 13364 48 [(0, .ref 0), (1, .int (nI i)), (2, .int (nI k)), (3, .int (nI w)), (4, .ref (T 0 i)), (5, .int (nI (ocB (fun v => decide (¬ (dsG (cvc Wc0 len0) (wvc Wc1 len1) N (fun i => (imP (W 0) N).getD i 0) (imP (W 0) N).length (odW (W 0) (tN (W 0) (50 + 7 * i + 2)) (tN (W 0) (50 + 7 * i + 3)) v) k).1 (50 + 7 * i + 6) = nI 1)) u))), (6, .int (nI (10 * u)))] [] n1 (co R1 W1 Z1 T1 kn1 h0) c s Q) (10) ?_ (fun u hu hn => ?_) 0 (by omega) R W Z T kn n 0 0 JF.id hI (fun _ => rfl) ⟨8, 64, Or.inl ⟨Nat.le_refl _, Nat.le_refl _⟩, by have := bue_le (len := len0) (np := (imP (W 0) N).length) (kn := kn); omega, by have := bue_le (len := len0) (np := (imP (W 0) N).length) (kn := kn); omega⟩
        · skip
          intro R1 W1 Z1 T1 kn1 n1 c s hJ1 hI1 hU1 hcs
          obtain ⟨mi, si, hmi, hc9, hs9⟩ := id hcs
          have hoc := ocB_le (P := (fun v => decide (¬ (dsG (cvc Wc0 len0) (wvc Wc1 len1) N (fun i => (imP (W 0) N).getD i 0) (imP (W 0) N).length (odW (W 0) (tN (W 0) (50 + 7 * i + 2)) (tN (W 0) (50 + 7 * i + 3)) v) k).1 (50 + 7 * i + 6) = nI 1))) 10
          refine V.iload d_F_odds_48 rfl ?_
          refine V.bipush_ (nI 90) d_F_odds_50 (by decide +kernel) ?_
          refine V.gtN (tgt := 147) d_F_odds_52 (by decide) (by omega) (by omega) (fun c_52 => ?_) (fun c_52 => ?_)
          · skip
            refine V.iload d_F_odds_147 rfl ?_
            refine V.bipush_ (nI 10) d_F_odds_149 (by decide +kernel) ?_
            refine V.callS2 d_F_odds_151 k_F_264_F_commonDivisorS (Nat.le_of_ble_eq_true rfl) (by omega) (by omega) (c_F_commonDivisor hoc (fun r hr hcd => ?_))
            refine V.istore d_F_odds_154 (by decide) ?_
            refine V.iload_n d_F_odds_156 rfl ?_
            refine V.if_ne (tgt := 165) d_F_odds_157 (by decide) (fun c_157 => ?_) (fun c_157 => ?_)
            · skip
              refine V.bipush_ (nI 10) d_F_odds_165 (by decide +kernel) ?_
              refine V.iload d_F_odds_167 rfl ?_
              refine V.idiv d_F_odds_169 (nI_ne0 (by have := hcd.1; omega) (by omega)) ?_
              refine V.iret d_F_odds_170 rfl (by omega) (by omega) ?_
              have h := hOk i k w r hi hk hw1 rfl rfl rfl hr hcd R1 W1 Z1 T1 kn1 n1 hJ1 hI1
              rw [if_neg (fun z => c_157 (by rw [z]; rfl))] at h
              exact h
            · skip
              refine V.iload d_F_odds_160 rfl ?_
              refine V.goto (tgt := 167) d_F_odds_162 (by decide) ?_
              refine V.iload d_F_odds_167 rfl ?_
              refine V.idiv d_F_odds_169 (nI_ne0 (by have := hcd.1; omega) (by omega)) ?_
              refine V.iret d_F_odds_170 rfl (by omega) (by omega) ?_
              have h := hOk i k w r hi hk hw1 rfl rfl rfl hr hcd R1 W1 Z1 T1 kn1 n1 hJ1 hI1
              rw [if_pos ((nI_eq (by omega) (by decide)).mp (show nI w = nI 0 from c_157))] at h
              exact h
          · skip
            exact absurd c_52 (by omega)
        · skip
          intro R1 W1 Z1 T1 kn1 n1 c s hJ1 hI1 hU1 hcs
          obtain ⟨mi, si, hmi, hc9, hs9⟩ := hcs
          have eW0 : W1 0 = W 0 := hJ1.2.2 0 (by decide)
          obtain ⟨-, -, -, -, hB01, hB11, -, -, hT1, -⟩ := id hI1
          obtain ⟨B, hBe⟩ : ∃ b, b = (if 0 < k ∧ ¬ (stS (W 0) true N &&& (nI 1 <<< (nI i &&& 31))) = 0 then bue len0 (imP (W 0) N).length kn1 else 0) := ⟨_, rfl⟩
          have hBl : B ≤ bue len0 (imP (W 0) N).length kn1 := by rw [hBe]; split <;> omega
          refine V.iload d_F_odds_48 rfl ?_
          refine V.bipush_ (nI 90) d_F_odds_50 (by decide +kernel) ?_
          refine V.gtN (tgt := 147) d_F_odds_52 (by decide) (by omega) (by omega) (fun c_52 => ?_) (fun c_52 => ?_)
          · skip
            exact absurd c_52 (by omega)
          · skip
            refine V.aload_n d_F_odds_55 rfl ?_
            refine V.get d_F_odds_56 f_F_43_F (co_s sc_ob) rfl ?_
            refine V.aload_n d_F_odds_59 rfl ?_
            refine V.get d_F_odds_60 f_F_39_F (co_s sc_ob) rfl ?_
            refine V.callV1 d_F_odds_63 k_F_212_World_imagine_WorldV (co_s (sc_wd (wb_ds 1 (by decide)).1)) (Nat.le_of_ble_eq_true rfl) (by omega) (by omega) (t_imagine (mi := mi) (si := si) hI1 hh0 hmi (fun Ra Wa Za Ta na hJa hIa hna hWa hHa hZa hPa hAa hUa => ?_))
            rw [eW0] at hWa hPa
            obtain ⟨-, -, -, -, -, hB1a, -, -, hTa2, hKa2⟩ := id hIa
            have eWa0 : Wa 0 = W 0 := (hJa.2.2 0 (by decide)).trans eW0
            have hB0a : WB (Wa 0) := by rw [eWa0]; exact hB0
            rw [← hU1 i, ← hUa 0 i (by decide)]
            refine V.aload_n d_F_odds_66 rfl ?_
            refine V.get d_F_odds_67 f_F_43_F (co_s sc_ob) rfl ?_
            refine V.get d_F_odds_70 f_F_101_World (co_s (sc_wd (wb_ds 1 (by decide)).1)) rfl ?_
            refine V.aload d_F_odds_73 rfl ?_
            refine V.get d_F_odds_75 (ft_F_133 _ (hB0a.kd hi8)) (co_t hTa2 (by decide) hi8) rfl ?_
            refine V.top (y := nI (tN (W 0) (50 + 7 * i + 2))) (by rw [eWa0]; exact f2) ?_
            refine V.aload d_F_odds_78 rfl ?_
            refine V.get d_F_odds_80 (ft_F_136 _ (hB0a.kd hi8)) (co_t hTa2 (by decide) hi8) rfl ?_
            refine V.top (y := nI (tN (W 0) (50 + 7 * i + 3))) (by rw [eWa0]; exact f3) ?_
            refine V.callS2 d_F_odds_83 k_F_104_F_cellS (Nat.le_of_ble_eq_true rfl) (by omega) (by omega) (c_F_cell ?_)
            refine V.iload d_F_odds_86 rfl ?_
            refine V.iastN d_F_odds_88 (co_s (sc_ho (wb_ds 1 (by decide)).2.1)) (by omega) (by omega) ?_
            refine V.eqH (co_uho (w := 1) hTa2 (by decide) (by omega)) ?_
            refine V.absW (fun Wc hWc => ?_)
            have eWc0 : Wc 0 = W 0 := by rw [hWc, uW_n (by decide)]; exact eWa0
            have hB0c : WB (Wc 0) := by rw [eWc0]; exact hB0
            refine V.aload_n d_F_odds_89 rfl ?_
            refine V.get d_F_odds_90 f_F_43_F (co_s sc_ob) rfl ?_
            refine V.get d_F_odds_93 f_F_101_World (co_s (sc_wd (wb_ds 1 (by decide)).1)) rfl ?_
            refine V.aload d_F_odds_96 rfl ?_
            refine V.get d_F_odds_98 (ft_F_136 _ (hB0c.kd hi8)) (co_t hTa2 (by decide) hi8) rfl ?_
            refine V.top (y := nI (tN (W 0) (50 + 7 * i + 3))) (by rw [eWc0]; exact f3) ?_
            refine V.aload d_F_odds_101 rfl ?_
            refine V.get d_F_odds_103 (ft_F_133 _ (hB0c.kd hi8)) (co_t hTa2 (by decide) hi8) rfl ?_
            refine V.top (y := nI (tN (W 0) (50 + 7 * i + 2))) (by rw [eWc0]; exact f2) ?_
            refine V.callS2 d_F_odds_106 k_F_104_F_cellS (Nat.le_of_ble_eq_true rfl) (by omega) (by omega) (c_F_cell ?_)
            refine V.iload d_F_odds_109 rfl ?_
            refine V.iastN d_F_odds_111 (co_s (sc_ho (wb_ds 1 (by decide)).2.1)) (by omega) (by omega) ?_
            refine V.eqH (co_uho (w := 1) hTa2 (by decide) (by omega)) ?_
            rw [hWc, uW_uu, uW_s]
            rw [hWa]
            refine V.eqH (h' := co Ra (uW Wa 1 (odW (cpW (W1 1) (W 0)) (tN (W 0) (50 + 7 * i + 2)) (tN (W 0) (50 + 7 * i + 3)) u)) Za Ta kn1 h0) rfl ?_
            have hBt : WB (odW (cpW (W1 1) (W 0)) (tN (W 0) (50 + 7 * i + 2)) (tN (W 0) (50 + 7 * i + 3)) u) := (hB11.cp hB0).od b2 b3 (by omega)
            have hAG : AG N (fun _ => True) (odW (W 0) (tN (W 0) (50 + 7 * i + 2)) (tN (W 0) (50 + 7 * i + 3)) u) (odW (cpW (W1 1) (W 0)) (tN (W 0) (50 + 7 * i + 2)) (tN (W 0) (50 + 7 * i + 3)) u) := (AG.cp hN).od
            have hkp : ∀ j, j < 6 ∨ (50 ≤ j ∧ j < 106) → (odW (cpW (W1 1) (W 0)) (tN (W 0) (50 + 7 * i + 2)) (tN (W 0) (50 + 7 * i + 3)) u) j = W 0 j := fun j hj => by rw [odW_n b2 b3 (by omega)]; exact cpW_r (by omega)
            have eS0 : stS (odW (cpW (W1 1) (W 0)) (tN (W 0) (50 + 7 * i + 2)) (tN (W 0) (50 + 7 * i + 3)) u) true N = stS (W 0) true N := stS_c N (fun i hi => hkp _ (by omega))
            have hIt := hIa.md hBt
            have hAt := hAa.md (D' := (odW (cpW (W1 1) (W 0)) (tN (W 0) (50 + 7 * i + 2)) (tN (W 0) (50 + 7 * i + 3)) u)) (fun i hi => by rw [hkp _ (by omega), hWa]; exact (cpW_r (by omega)).symm)
            have e1t : uW Wa 1 (odW (cpW (W1 1) (W 0)) (tN (W 0) (50 + 7 * i + 2)) (tN (W 0) (50 + 7 * i + 3)) u) 1 0 = nI N := by rw [uW_s, hkp 0 (by omega)]; exact e0
            have edt : uW Wa 1 (odW (cpW (W1 1) (W 0)) (tN (W 0) (50 + 7 * i + 2)) (tN (W 0) (50 + 7 * i + 3)) u) 1 1 = nI dy := by rw [uW_s, hkp 1 (by omega)]; exact hdy
            refine V.aload_n d_F_odds_112 rfl ?_
            refine V.get d_F_odds_113 f_F_43_F (co_s sc_ob) rfl ?_
            refine V.iconst_ (nI 1) d_F_odds_116 (by decide +kernel) ?_
            refine V.iload_n d_F_odds_117 rfl ?_
            refine V.ishl d_F_odds_118 ?_
            refine V.iload_n d_F_odds_119 rfl ?_
            refine V.callV2 d_F_odds_120 k_F_216_World_passUntilDown_WorldV (co_s (sc_wd (wb_ds 1 (by decide)).1)) (Nat.le_of_ble_eq_true rfl) (by omega) (by omega) (t_pass (nn := k) (B := B) hIt e1t edt (by omega) hPa hZa hAt (fun q1 q2 => by rw [uW_s, eS0] at q2; rw [hBe, if_pos ⟨q1, q2⟩]; exact Nat.le_refl _) (by omega) (fun m Rb Wb Zb knb nb hmb hsb hab hJb hIb hnb hWb hrb hzb hhb hAb hbb hPb => ?_))
            rw [uW_s] at hsb hWb hbb hrb hzb hhb
            obtain ⟨-, e0b, -, -, -, hB1b, -, -, hTb, -⟩ := id hIb
            have e1b : Wb 1 0 = nI N := by rw [hWb, (dsG_i hN hBt hpl m).2.1, hkp 0 (by omega)]; exact e0
            have hbe : bue len0 (imP (W 0) N).length knb + B = bue len0 (imP (W 0) N).length kn1 := by
              rw [hBe]
              rw [eS0] at hbb
              by_cases z : 0 < k ∧ ¬ (stS (W 0) true N &&& (nI 1 <<< (nI i &&& 31))) = 0
              · rw [if_pos z, hbb.1 z, Nat.zero_add]
              · rw [if_neg z, hbb.2 z, Nat.add_zero]
            obtain ⟨hAGk, hALk⟩ := dsG_ag (cv := cvc Wc0 len0) (wv := wvc Wc1 len1) hpl hAG ((hB0.od b2 b3 (by omega)).tb5 hN) k
            have q := pud_and (cv := cvc Wc0 len0) (wv := wvc Wc1 len1) (D := (odW (cpW (W1 1) (W 0)) (tN (W 0) (50 + 7 * i + 2)) (tN (W 0) (50 + 7 * i + 3)) u)) (y := (nI 1 <<< (nI i &&& 31))) hN hpl hmb hsb
            rw [stS_one hN hi, stS_one hN hi, hAGk.tr hi (show 6 < 7 by omega)] at q
            have hJq : JF R W Z Rb Wb Zb := hJ1.tr (hJa.tr (JF.md.tr hJb))
            refine V.aload_n d_F_odds_123 rfl ?_
            refine V.get d_F_odds_124 f_F_43_F (co_s sc_ob) rfl ?_
            refine V.get d_F_odds_127 f_F_145_World (co_s (sc_wd (wb_ds 1 (by decide)).1)) rfl ?_
            refine V.iload_n d_F_odds_130 rfl ?_
            refine V.aald d_F_odds_131 (Or.inl rfl) (co_s (sc_tr (wb_ds 1 (by decide)).2.2.2.1)) (vp_in_nI (by omega) (by omega)) (by rw [icl (by omega)]; exact if_pos (by omega)) ?_
            refine V.get d_F_odds_132 (ft_F_159 _ (hB1b.kd hi8)) (co_t hTb (by decide) hi8) rfl ?_
            refine V.if_ne (tgt := 141) d_F_odds_135 (by decide) (fun c_135 => ?_) (fun c_135 => ?_)
            · skip
              refine V.iinc d_F_odds_141 rfl (show nI (10 * u) + Int32.ofInt 10 = nI (10 * (u + 1)) from (nI_add (10 * u) 10).trans (congrArg nI (by omega))) (by decide) ?_
              refine V.goto (tgt := 48) d_F_odds_144 (by decide) ?_
              have hp : (fun v => decide (¬ (dsG (cvc Wc0 len0) (wvc Wc1 len1) N (fun i => (imP (W 0) N).getD i 0) (imP (W 0) N).length (odW (W 0) (tN (W 0) (50 + 7 * i + 2)) (tN (W 0) (50 + 7 * i + 3)) v) k).1 (50 + 7 * i + 6) = nI 1)) u = false := decide_eq_false (fun z => z (Decidable.not_not.mp (fun y => q.mpr y (by
                rw [← hWb]
                obtain ⟨k6, b6, e6⟩ := hB1b.k6 hi8
                rw [e6] at c_135 ⊢
                rcases (show k6 = 0 ∨ k6 = 1 by omega) with rfl | rfl
                · exact absurd rfl c_135
                · rfl))))
              rw [ocB_f hp] at hn
              rw [hUa 0 i (by decide), hU1 i]
              exact V.lc rfl (hn Rb Wb Zb Ta knb nb _ _ hJq hIb (fun i => (hUa 0 i (by decide)).trans (hU1 i)) ⟨0, 0, Or.inr hAb, by omega, by omega⟩)
            · skip
              refine V.incN d_F_odds_138 rfl (by decide) ?_
              refine V.iinc d_F_odds_141 rfl (show nI (10 * u) + Int32.ofInt 10 = nI (10 * (u + 1)) from (nI_add (10 * u) 10).trans (congrArg nI (by omega))) (by decide) ?_
              refine V.goto (tgt := 48) d_F_odds_144 (by decide) ?_
              have hp : (fun v => decide (¬ (dsG (cvc Wc0 len0) (wvc Wc1 len1) N (fun i => (imP (W 0) N).getD i 0) (imP (W 0) N).length (odW (W 0) (tN (W 0) (50 + 7 * i + 2)) (tN (W 0) (50 + 7 * i + 3)) v) k).1 (50 + 7 * i + 6) = nI 1)) u = true := decide_eq_true (q.mp (fun z => by rw [← hWb, c_135] at z; exact absurd z (by decide)))
              rw [ocB_t hp] at hn
              rw [hUa 0 i (by decide), hU1 i]
              exact V.lc rfl (hn Rb Wb Zb Ta knb nb _ _ hJq hIb (fun i => (hUa 0 i (by decide)).trans (hU1 i)) ⟨0, 0, Or.inr hAb, by omega, by omega⟩)
      · skip
        refine V.aload_n d_F_odds_25 rfl ?_
        refine V.iconst_ (nI 1) d_F_odds_26 (by decide +kernel) ?_
        refine V.callV1 d_F_odds_27 k_F_97_F_error_FV (co_s sc_ob) (Nat.le_of_ble_eq_true rfl) (by omega) (by omega) (c_F_error (by decide) ?_)
        refine V.iret d_F_odds_30 rfl (by omega) (by omega) ?_
        rw [e0] at c_5
        exact hE (by simp only [c_5, c_14, c_22, Bool.and_false, Bool.false_and, Bool.and_true, Bool.true_and])
abbrev M_F_check : MD := (⟨"FelledByNames", "check", "()I"⟩, prog_1_method_40_code, 3, (some .int), fun _ => True)
theorem d_F_check_0 : decode prog_1_method_40_code 0 = .ok (.iconst 0, 1) := by decide +kernel
theorem d_F_check_1 : decode prog_1_method_40_code 1 = .ok (.istore_n 1, 1) := by decide +kernel
theorem d_F_check_2 : decode prog_1_method_40_code 2 = .ok (.aload_n 0, 1) := by decide +kernel
theorem d_F_check_3 : decode prog_1_method_40_code 3 = .ok (.getfield 43, 3) := by decide +kernel
theorem d_F_check_6 : decode prog_1_method_40_code 6 = .ok (.aload_n 0, 1) := by decide +kernel
theorem d_F_check_7 : decode prog_1_method_40_code 7 = .ok (.getfield 39, 3) := by decide +kernel
theorem d_F_check_10 : decode prog_1_method_40_code 10 = .ok (.invokevirtual 212, 3) := by decide +kernel
theorem d_F_check_69 : decode prog_1_method_40_code 69 = .ok (.aload_n 0, 1) := by decide +kernel
theorem d_F_check_70 : decode prog_1_method_40_code 70 = .ok (.getfield 46, 3) := by decide +kernel
theorem d_F_check_73 : decode prog_1_method_40_code 73 = .ok (.invokevirtual 190, 3) := by decide +kernel
theorem d_F_check_76 : decode prog_1_method_40_code 76 = .ok (.iload_n 1, 1) := by decide +kernel
theorem d_F_check_77 : decode prog_1_method_40_code 77 = .ok (.ireturn, 1) := by decide +kernel
theorem d_F_check_13 : decode prog_1_method_40_code 13 = .ok (.iconst 0, 1) := by decide +kernel
theorem d_F_check_14 : decode prog_1_method_40_code 14 = .ok (.istore_n 2, 1) := by decide +kernel
theorem d_F_check_15 : decode prog_1_method_40_code 15 = .ok (.iload_n 2, 1) := by decide +kernel
theorem d_F_check_16 : decode prog_1_method_40_code 16 = .ok (.aload_n 0, 1) := by decide +kernel
theorem d_F_check_17 : decode prog_1_method_40_code 17 = .ok (.getfield 46, 3) := by decide +kernel
theorem d_F_check_20 : decode prog_1_method_40_code 20 = .ok (.getfield 181, 3) := by decide +kernel
theorem d_F_check_23 : decode prog_1_method_40_code 23 = .ok (.if_icmp .ge 46, 3) := by decide +kernel
theorem d_F_check_26 : decode prog_1_method_40_code 26 = .ok (.iload_n 1, 1) := by decide +kernel
theorem d_F_check_27 : decode prog_1_method_40_code 27 = .ok (.ifCond .ne 42, 3) := by decide +kernel
theorem d_F_check_30 : decode prog_1_method_40_code 30 = .ok (.aload_n 0, 1) := by decide +kernel
theorem d_F_check_31 : decode prog_1_method_40_code 31 = .ok (.getfield 43, 3) := by decide +kernel
theorem d_F_check_34 : decode prog_1_method_40_code 34 = .ok (.invokevirtual 200, 3) := by decide +kernel
theorem d_F_check_37 : decode prog_1_method_40_code 37 = .ok (.aload_n 0, 1) := by decide +kernel
theorem d_F_check_38 : decode prog_1_method_40_code 38 = .ok (.getfield 43, 3) := by decide +kernel
theorem d_F_check_41 : decode prog_1_method_40_code 41 = .ok (.iconst 1, 1) := by decide +kernel
theorem d_F_check_42 : decode prog_1_method_40_code 42 = .ok (.invokevirtual 220, 3) := by decide +kernel
theorem d_F_check_45 : decode prog_1_method_40_code 45 = .ok (.invokestatic 228, 3) := by decide +kernel
theorem d_F_check_48 : decode prog_1_method_40_code 48 = .ok (.aload_n 0, 1) := by decide +kernel
theorem d_F_check_49 : decode prog_1_method_40_code 49 = .ok (.getfield 46, 3) := by decide +kernel
theorem d_F_check_52 : decode prog_1_method_40_code 52 = .ok (.iload_n 2, 1) := by decide +kernel
theorem d_F_check_53 : decode prog_1_method_40_code 53 = .ok (.invokevirtual 260, 3) := by decide +kernel
theorem d_F_check_56 : decode prog_1_method_40_code 56 = .ok (.if_icmp .eq 7, 3) := by decide +kernel
theorem d_F_check_63 : decode prog_1_method_40_code 63 = .ok (.iinc 2 1, 3) := by decide +kernel
theorem d_F_check_66 : decode prog_1_method_40_code 66 = .ok (.goto (-51), 3) := by decide +kernel
theorem d_F_check_59 : decode prog_1_method_40_code 59 = .ok (.iconst 1, 1) := by decide +kernel
theorem d_F_check_60 : decode prog_1_method_40_code 60 = .ok (.iload_n 2, 1) := by decide +kernel
theorem d_F_check_61 : decode prog_1_method_40_code 61 = .ok (.iadd, 1) := by decide +kernel
theorem d_F_check_62 : decode prog_1_method_40_code 62 = .ok (.istore_n 1, 1) := by decide +kernel
set_option maxRecDepth 100000 in
theorem c_F_check {N dy len0 len1 : Nat} {Wc0 Wc1 : Nat → Nat} {w0 : Nat} {l : Launch} {d n : Nat} {R W Z : Nat → Nat → Int32} {T : Nat → Nat → Nat} {kn : Kn} {h0 : HP} {Q : QT} (hI : CI R W Z T kn n N dy Wc0 len0 Wc1 len1) (hh0 : ∀ a, ¬ (88 ≤ a ∧ a < 104) → h0 a = none) (hw0 : w0 ≤ 20) (ew : Z 49 1 = nI w0) (hOk : ∀ r : Int32, ((r = nI 0 ∧ ∀ u, u < w0 → R 50 u = bcv (stS (dsG (cvc Wc0 len0) (wvc Wc1 len1) N (fun i => (imP (W 0) N).getD i 0) (imP (W 0) N).length (cpW (W 1) (W 0)) (u + 1)).1 true N)) ∨ ∃ k, k < w0 ∧ r = nI (1 + k) ∧ (∀ u, u < k → R 50 u = bcv (stS (dsG (cvc Wc0 len0) (wvc Wc1 len1) N (fun i => (imP (W 0) N).getD i 0) (imP (W 0) N).length (cpW (W 1) (W 0)) (u + 1)).1 true N)) ∧ ¬ R 50 k = bcv (stS (dsG (cvc Wc0 len0) (wvc Wc1 len1) N (fun i => (imP (W 0) N).getD i 0) (imP (W 0) N).length (cpW (W 1) (W 0)) (k + 1)).1 true N)) → ∀ (R1 W1 Z1 : Nat → Nat → Int32) (T1 : Nat → Nat → Nat) (kn1 : Kn) (n1 : Nat), JF R W Z R1 W1 Z1 → CI R1 W1 Z1 T1 kn1 n1 N dy Wc0 len0 Wc1 len1 → Q (some (.int r)) n1 (co R1 W1 (uZ Z1 49 1 (nI 0)) T1 kn1 h0)) : Ct l M_F_check (d + 13) 9 13364 [.ref 0] n (co R W Z T kn h0) Q := by
  refine Ct.of (fun _ => trivial) (by decide) (Nat.le_of_ble_eq_true rfl) ?_
  obtain ⟨hN, e0, hdy, hd9, hB0, hB1, hx0, hx1, hT, hK⟩ := id hI
  have hpl : ∀ i, i < (imP (W 0) N).length → (fun i => (imP (W 0) N).getD i 0) i < 36 := fun i hi => by
    refine imP_lt hB0 N hN _ ?_
    show (imP (W 0) N).getD i 0 ∈ _
    rw [List.getD_eq_getElem?_getD, List.getElem?_eq_getElem hi]
    exact List.getElem_mem hi
  refine V.iconst_ (nI 0) d_F_check_0 (by decide +kernel) ?_
  refine V.istore_n d_F_check_1 (by decide) ?_
  refine V.aload_n d_F_check_2 rfl ?_
  refine V.get d_F_check_3 f_F_43_F (co_s sc_ob) rfl ?_
  refine V.aload_n d_F_check_6 rfl ?_
  refine V.get d_F_check_7 f_F_39_F (co_s sc_ob) rfl ?_
  refine V.callV1 d_F_check_10 k_F_212_World_imagine_WorldV (co_s (sc_wd (wb_ds 1 (by decide)).1)) (Nat.le_of_ble_eq_true rfl) (by omega) (by omega) (t_imagine (mi := 8) (si := 64) hI hh0 (Or.inl ⟨Nat.le_refl _, Nat.le_refl _⟩) (fun Ra Wa Za Ta na hJa hIa hna hWa hHa hZa hPa hAa hUa => ?_))
  have e1a : Wa 1 0 = nI N := by rw [hWa]; exact e0
  have eda : Wa 1 1 = nI dy := by rw [hWa]; exact hdy
  have key : ∀ r : Int32, ((r = nI 0 ∧ ∀ u, u < w0 → R 50 u = bcv (stS (dsG (cvc Wc0 len0) (wvc Wc1 len1) N (fun i => (imP (W 0) N).getD i 0) (imP (W 0) N).length (cpW (W 1) (W 0)) (u + 1)).1 true N)) ∨ ∃ k, k < w0 ∧ r = nI (1 + k) ∧ (∀ u, u < k → R 50 u = bcv (stS (dsG (cvc Wc0 len0) (wvc Wc1 len1) N (fun i => (imP (W 0) N).getD i 0) (imP (W 0) N).length (cpW (W 1) (W 0)) (u + 1)).1 true N)) ∧ ¬ R 50 k = bcv (stS (dsG (cvc Wc0 len0) (wvc Wc1 len1) N (fun i => (imP (W 0) N).getD i 0) (imP (W 0) N).length (cpW (W 1) (W 0)) (k + 1)).1 true N)) → ∀ (R1 W1 Z1 : Nat → Nat → Int32) (kn1 : Kn) (n1 : Nat), JF R W Z R1 W1 Z1 → CI R1 W1 Z1 Ta kn1 n1 N dy Wc0 len0 Wc1 len1 → V l M_F_check (d + 13) 9 13364 69 [(0, .ref 0), (1, .int r)] [] n1 (co R1 W1 Z1 Ta kn1 h0) (8 + (1 - bue len0 (imP (W 0) N).length kn1)) (64 + 13300 * (1 - bue len0 (imP (W 0) N).length kn1)) Q := by
    intro r hr R1 W1 Z1 kn1 n1 hJ1 hI1
    have hbl := bue_le (len := len0) (np := (imP (W 0) N).length) (kn := kn1)
    refine V.aload_n d_F_check_69 rfl ?_
    refine V.get d_F_check_70 f_F_46_F (co_s sc_ob) rfl ?_
    refine V.callV0 d_F_check_73 k_F_190_Row_clear_RowV (co_s (sc_rw rfl)) (Nat.le_of_ble_eq_true rfl) (by omega) (by omega) (c_Row_clear rfl ?_)
    refine V.iload_n d_F_check_76 rfl ?_
    refine V.iret d_F_check_77 rfl (by omega) (by omega) ?_
    exact hOk r hr R1 W1 Z1 Ta kn1 n1 hJ1 hI1
  refine V.iconst_ (nI 0) d_F_check_13 (by decide +kernel) ?_
  refine V.istore_n d_F_check_14 (by decide) ?_
  refine V.wd (c' := 8 + (1 - bue len0 (imP (W 0) N).length kn)) (s' := 64 + 13300 * (1 - bue len0 (imP (W 0) N).length kn)) (by omega) (by omega) ?_
  refine V.lc (ls' := [(0, .ref 0), (1, .int (nI 0)), (2, .int (nI 0))]) rfl ?_
  refine up_to (G := fun u => ∀ (R1 W1 Z1 : Nat → Nat → Int32) (kn1 : Kn) (n1 : Nat), JF R W Z R1 W1 Z1 → CI R1 W1 Z1 Ta kn1 n1 N dy Wc0 len0 Wc1 len1 → W1 1 = (dsG (cvc Wc0 len0) (wvc Wc1 len1) N (fun i => (imP (W 0) N).getD i 0) (imP (W 0) N).length (cpW (W 1) (W 0)) u).1 → Z1 (wb 1 + 4) 1 = nI (dsG (cvc Wc0 len0) (wvc Wc1 len1) N (fun i => (imP (W 0) N).getD i 0) (imP (W 0) N).length (cpW (W 1) (W 0)) u).2.length → PR R1 Z1 1 (imP (W 0) N).length (fun i => (imP (W 0) N).getD i 0) → (∀ q, q < u → R 50 q = bcv (stS (dsG (cvc Wc0 len0) (wvc Wc1 len1) N (fun i => (imP (W 0) N).getD i 0) (imP (W 0) N).length (cpW (W 1) (W 0)) (q + 1)).1 true N)) → V l M_F_check (d + 13) 9 13364 15 [(0, .ref 0), (1, .int (nI 0)), (2, .int (nI u))] [] n1 (co R1 W1 Z1 Ta kn1 h0) (8 + (1 - bue len0 (imP (W 0) N).length kn1)) (64 + 13300 * (1 - bue len0 (imP (W 0) N).length kn1)) Q) (w0) ?_ (fun u hu hn => ?_) 0 (by omega) Ra Wa Za kn na hJa hIa hWa hZa hPa (fun q hq => absurd hq (by omega))
  · skip
    intro R1 W1 Z1 kn1 n1 hJ1 hI1 hW1 hz1 hP1 hall
    have ew1 : Z1 49 1 = nI w0 := by rw [hJ1.2.1 _ _ (by decide) (by decide)]; exact ew
    refine V.iload_n d_F_check_15 rfl ?_
    refine V.aload_n d_F_check_16 rfl ?_
    refine V.get d_F_check_17 f_F_46_F (co_s sc_ob) rfl ?_
    refine V.get d_F_check_20 f_F_181_Row (co_s (sc_rw rfl)) rfl ?_
    refine V.top (y := nI w0) (ew1) ?_
    refine V.geN (tgt := 69) d_F_check_23 (by decide) (by omega) (by omega) (fun c_23 => ?_) (fun c_23 => ?_)
    · skip
      exact V.lc rfl (key (nI 0) (Or.inl ⟨rfl, hall⟩) R1 W1 Z1 kn1 n1 hJ1 hI1)
    · skip
      refine V.iload_n d_F_check_26 rfl ?_
      refine V.if_ne (tgt := 69) d_F_check_27 (by decide) (fun c_27 => ?_) (fun c_27 => ?_)
      · skip
        exact absurd rfl c_27
      · skip
        exact absurd c_23 (by omega)
  · skip
    intro R1 W1 Z1 kn1 n1 hJ1 hI1 hW1 hz1 hP1 hall
    have hbl := bue_le (len := len0) (np := (imP (W 0) N).length) (kn := kn1)
    obtain ⟨g1, g2, g3, g4⟩ := dsG_i (cv := cvc Wc0 len0) (wv := wvc Wc1 len1) hN (hB1.cp hB0) hpl u
    obtain ⟨-, -, -, -, -, hB11, hx01, hx11, hT1, hK1⟩ := id hI1
    have e11 : W1 1 0 = nI N := by rw [hW1, g2]; exact e0
    have ed1 : W1 1 1 = nI (dy + u) := by rw [hW1, g3, show cpW (W 1) (W 0) 1 = W 0 1 from rfl, hdy, nI_add]
    have hcl := cst_le (D := cpW (W 1) (W 0)) N
    have ew1 : Z1 49 1 = nI w0 := by rw [hJ1.2.1 _ _ (by decide) (by decide)]; exact ew
    refine V.iload_n d_F_check_15 rfl ?_
    refine V.aload_n d_F_check_16 rfl ?_
    refine V.get d_F_check_17 f_F_46_F (co_s sc_ob) rfl ?_
    refine V.get d_F_check_20 f_F_181_Row (co_s (sc_rw rfl)) rfl ?_
    refine V.top (y := nI w0) (ew1) ?_
    refine V.geN (tgt := 69) d_F_check_23 (by decide) (by omega) (by omega) (fun c_23 => ?_) (fun c_23 => ?_)
    · skip
      exact absurd c_23 (by omega)
    · skip
      refine V.iload_n d_F_check_26 rfl ?_
      refine V.if_ne (tgt := 69) d_F_check_27 (by decide) (fun c_27 => ?_) (fun c_27 => ?_)
      · skip
        exact absurd rfl c_27
      · skip
        refine V.aload_n d_F_check_30 rfl ?_
        refine V.get d_F_check_31 f_F_43_F (co_s sc_ob) rfl ?_
        refine V.callV0 d_F_check_34 k_F_200_World_passDay_WorldV (co_s (sc_wd (wb_ds 1 (by decide)).1)) (Nat.le_of_ble_eq_true rfl) (by omega) (by omega) (c_World_passDay (w := 1) (B := bue len0 (imP (W 0) N).length kn1) (by decide) hN e11 hx01 hx11 hP1 hT1 hK1 (Nat.le_refl _) hB11 ed1 (by omega) hz1 (by rw [hW1]; omega) (fun R2 W2 Z2 kn2 n2 hF2 hW2 hr52 hz42 hr62 hT2 hK2 hb2 hn2 => ?_))
        have eX : W2 1 = (dsG (cvc Wc0 len0) (wvc Wc1 len1) N (fun i => (imP (W 0) N).getD i 0) (imP (W 0) N).length (cpW (W 1) (W 0)) (u + 1)).1 := by rw [hW2, hW1]; rfl
        obtain ⟨g1b, g2b, g3b, g4b⟩ := dsG_i (cv := cvc Wc0 len0) (wv := wvc Wc1 len1) hN (hB1.cp hB0) hpl (u + 1)
        have hB12 : WB (W2 1) := by rw [eX]; exact g1b
        have e12 : W2 1 0 = nI N := by rw [eX, g2b]; exact e0
        have hJ12 : JF R W Z R2 W2 Z2 := hJ1.tr hF2.jf
        have hI2 := hI1.go hF2.jf hB12 hT2 hK2
        have ew2 : Z2 49 1 = nI w0 := by rw [hJ12.2.1 _ _ (by decide) (by decide)]; exact ew
        have eR50 : R2 50 = R 50 := hJ12.1 _ (by decide) (by decide) (by decide)
        refine V.aload_n d_F_check_37 rfl ?_
        refine V.get d_F_check_38 f_F_43_F (co_s sc_ob) rfl ?_
        refine V.iconst_ (nI 1) d_F_check_41 (by decide +kernel) ?_
        refine V.callV1 d_F_check_42 k_F_220_World_setOfTrees_WorldV (co_s (sc_wd (wb_ds 1 (by decide)).1)) (Nat.le_of_ble_eq_true rfl) (by omega) (by omega) (c_World_setOfTrees (w := 1) (b := true) (by decide) hT2 hB12 hN e12 ?_)
        rw [eX]
        refine V.callS1 d_F_check_45 k_F_228_Integer_bitCountS (Nat.le_of_ble_eq_true rfl) (by omega) (by omega) (c_Integer_bitCount ?_)
        refine V.aload_n d_F_check_48 rfl ?_
        refine V.get d_F_check_49 f_F_46_F (co_s sc_ob) rfl ?_
        refine V.iload_n d_F_check_52 rfl ?_
        refine V.callV1 d_F_check_53 k_F_260_Row_get_RowV (co_s (sc_rw rfl)) (Nat.le_of_ble_eq_true rfl) (by omega) (by omega) (c_Row_get (a := 49) (N := 20) (sz := w0) rfl rfl ew2 hw0 (by decide) ?_)
        rw [rgt_in (by omega) (by omega), show R2 (49 + 1) = R 50 from eR50]
        refine V.icmp_eq (tgt := 63) d_F_check_56 (by decide) (fun c_56 => ?_) (fun c_56 => ?_)
        · skip
          refine V.incN d_F_check_63 rfl (by decide) ?_
          refine V.goto (tgt := 15) d_F_check_66 (by decide) ?_
          refine V.wd (c' := 8 + (1 - bue len0 (imP (W 0) N).length kn2)) (s' := 64 + 13300 * (1 - bue len0 (imP (W 0) N).length kn2)) (by omega) (by omega) ?_
          refine V.lc rfl (hn R2 W2 Z2 kn2 n2 hJ12 hI2 eX (by rw [hz42, hW1, dsG_s, List.length_append]) (hF2.pr hP1) (fun q hq => ?_))
          by_cases e : q = u
          · subst e; exact c_56.symm
          · exact hall q (by omega)
        · skip
          refine V.iconst_ (nI 1) d_F_check_59 (by decide +kernel) ?_
          refine V.iload_n d_F_check_60 rfl ?_
          refine V.addN d_F_check_61 ?_
          refine V.istore_n d_F_check_62 (by decide) ?_
          refine V.incN d_F_check_63 rfl (by decide) ?_
          refine V.goto (tgt := 15) d_F_check_66 (by decide) ?_
          refine V.wd (c' := 8 + (1 - bue len0 (imP (W 0) N).length kn2)) (s' := 64 + 13300 * (1 - bue len0 (imP (W 0) N).length kn2)) (by omega) (by omega) ?_
          refine V.iload_n d_F_check_15 rfl ?_
          refine V.aload_n d_F_check_16 rfl ?_
          refine V.get d_F_check_17 f_F_46_F (co_s sc_ob) rfl ?_
          refine V.get d_F_check_20 f_F_181_Row (co_s (sc_rw rfl)) rfl ?_
          refine V.top (y := nI w0) (ew2) ?_
          refine V.geN (tgt := 69) d_F_check_23 (by decide) (by omega) (by omega) (fun c_23 => ?_) (fun c_23 => ?_)
          · skip
            exact V.lc rfl (key (nI (1 + u)) (Or.inr ⟨u, hu, rfl, hall, fun z => c_56 z.symm⟩) R2 W2 Z2 kn2 n2 hJ12 hI2)
          · skip
            refine V.iload_n d_F_check_26 rfl ?_
            refine V.if_ne (tgt := 69) d_F_check_27 (by decide) (fun c_27 => ?_) (fun c_27 => ?_)
            · skip
              exact V.lc rfl (key (nI (1 + u)) (Or.inr ⟨u, hu, rfl, hall, fun z => c_56 z.symm⟩) R2 W2 Z2 kn2 n2 hJ12 hI2)
            · skip
              exact absurd c_27 (nI_ne0 (by omega) (by omega))
