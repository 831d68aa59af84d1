abbrev M_Mo_when : MD := (⟨"FelledByNamesModel", "when", "(I)I"⟩, prog_14_method_57_code, 4, (some .int), fun _ => True)
theorem d_Mo_when_0 : decode prog_14_method_57_code 0 = .ok (.aload_n 0, 1) := by decide +kernel
theorem d_Mo_when_1 : decode prog_14_method_57_code 1 = .ok (.iload_n 1, 1) := by decide +kernel
theorem d_Mo_when_2 : decode prog_14_method_57_code 2 = .ok (.invokevirtual 207, 3) := by decide +kernel
theorem d_Mo_when_5 : decode prog_14_method_57_code 5 = .ok (.ifCond .ne 9, 3) := by decide +kernel
theorem d_Mo_when_14 : decode prog_14_method_57_code 14 = .ok (.aload_n 0, 1) := by decide +kernel
theorem d_Mo_when_15 : decode prog_14_method_57_code 15 = .ok (.invokevirtual 228, 3) := by decide +kernel
theorem d_Mo_when_18 : decode prog_14_method_57_code 18 = .ok (.iconst 0, 1) := by decide +kernel
theorem d_Mo_when_19 : decode prog_14_method_57_code 19 = .ok (.istore_n 2, 1) := by decide +kernel
theorem d_Mo_when_20 : decode prog_14_method_57_code 20 = .ok (.iload_n 2, 1) := by decide +kernel
theorem d_Mo_when_21 : decode prog_14_method_57_code 21 = .ok (.bipush 60, 2) := by decide +kernel
theorem d_Mo_when_23 : decode prog_14_method_57_code 23 = .ok (.if_icmp .ge 24, 3) := by decide +kernel
theorem d_Mo_when_47 : decode prog_14_method_57_code 47 = .ok (.aload_n 0, 1) := by decide +kernel
theorem d_Mo_when_48 : decode prog_14_method_57_code 48 = .ok (.iload_n 1, 1) := by decide +kernel
theorem d_Mo_when_49 : decode prog_14_method_57_code 49 = .ok (.bipush 6, 2) := by decide +kernel
theorem d_Mo_when_51 : decode prog_14_method_57_code 51 = .ok (.invokevirtual 158, 3) := by decide +kernel
theorem d_Mo_when_54 : decode prog_14_method_57_code 54 = .ok (.ifCond .ne 7, 3) := by decide +kernel
theorem d_Mo_when_61 : decode prog_14_method_57_code 61 = .ok (.iconst 0, 1) := by decide +kernel
theorem d_Mo_when_62 : decode prog_14_method_57_code 62 = .ok (.istore_n 3, 1) := by decide +kernel
theorem d_Mo_when_63 : decode prog_14_method_57_code 63 = .ok (.aload_n 0, 1) := by decide +kernel
theorem d_Mo_when_64 : decode prog_14_method_57_code 64 = .ok (.invokevirtual 231, 3) := by decide +kernel
theorem d_Mo_when_67 : decode prog_14_method_57_code 67 = .ok (.iload_n 3, 1) := by decide +kernel
theorem d_Mo_when_68 : decode prog_14_method_57_code 68 = .ok (.ifCond .eq 7, 3) := by decide +kernel
theorem d_Mo_when_75 : decode prog_14_method_57_code 75 = .ok (.aload_n 0, 1) := by decide +kernel
theorem d_Mo_when_76 : decode prog_14_method_57_code 76 = .ok (.iconst 2, 1) := by decide +kernel
theorem d_Mo_when_77 : decode prog_14_method_57_code 77 = .ok (.invokevirtual 138, 3) := by decide +kernel
theorem d_Mo_when_80 : decode prog_14_method_57_code 80 = .ok (.ireturn, 1) := by decide +kernel
theorem d_Mo_when_71 : decode prog_14_method_57_code 71 = .ok (.iload_n 2, 1) := by decide +kernel
theorem d_Mo_when_72 : decode prog_14_method_57_code 72 = .ok (.goto 8, 3) := by decide +kernel
theorem d_Mo_when_57 : decode prog_14_method_57_code 57 = .ok (.iconst 1, 1) := by decide +kernel
theorem d_Mo_when_58 : decode prog_14_method_57_code 58 = .ok (.goto 4, 3) := by decide +kernel
theorem d_Mo_when_26 : decode prog_14_method_57_code 26 = .ok (.aload_n 0, 1) := by decide +kernel
theorem d_Mo_when_27 : decode prog_14_method_57_code 27 = .ok (.iload_n 1, 1) := by decide +kernel
theorem d_Mo_when_28 : decode prog_14_method_57_code 28 = .ok (.bipush 6, 2) := by decide +kernel
theorem d_Mo_when_30 : decode prog_14_method_57_code 30 = .ok (.invokevirtual 158, 3) := by decide +kernel
theorem d_Mo_when_33 : decode prog_14_method_57_code 33 = .ok (.iconst 1, 1) := by decide +kernel
theorem d_Mo_when_34 : decode prog_14_method_57_code 34 = .ok (.if_icmp .ne 13, 3) := by decide +kernel
theorem d_Mo_when_37 : decode prog_14_method_57_code 37 = .ok (.aload_n 0, 1) := by decide +kernel
theorem d_Mo_when_38 : decode prog_14_method_57_code 38 = .ok (.invokevirtual 186, 3) := by decide +kernel
theorem d_Mo_when_41 : decode prog_14_method_57_code 41 = .ok (.iinc 2 1, 3) := by decide +kernel
theorem d_Mo_when_44 : decode prog_14_method_57_code 44 = .ok (.goto (-24), 3) := by decide +kernel
theorem d_Mo_when_8 : decode prog_14_method_57_code 8 = .ok (.aload_n 0, 1) := by decide +kernel
theorem d_Mo_when_9 : decode prog_14_method_57_code 9 = .ok (.iconst 1, 1) := by decide +kernel
theorem d_Mo_when_10 : decode prog_14_method_57_code 10 = .ok (.invokevirtual 138, 3) := by decide +kernel
theorem d_Mo_when_13 : decode prog_14_method_57_code 13 = .ok (.ireturn, 1) := by decide +kernel
set_option maxRecDepth 100000 in
theorem c_Mo_when {x : Int32} {N fm len0 len1 : Nat} {W0 W1 : Nat → Nat} {l : Launch} {d q n : Nat} {D : Nat → Int32} {A : Nat → Nat → Int32} {S : Nat → Int32} {h0 : HP} {Q : QT} (hN : N ≤ 8) (hD : DW D N W0 len0 W1 len1) (hf : fm < 2 ^ 25) (ef : S 18 = nI fm) (hE : wi x (nI 0) (nI N - nI 1) = false → Q (some (.int (-1000000000 - nI 1))) n (mo q D (uA A 3 (upd (A 3) 1 (A 3 1 + nI 1))) S h0)) (hNo : ∀ i m, i < N → x = nI i → m ≤ 60 → (∀ u, u < m → (dsD (tgv 0 W0 len0) (tgv 1 W1 len1) N u D).1 (50 + 7 * i + 6) = nI 1) → ¬ (dsD (tgv 0 W0 len0) (tgv 1 W1 len1) N m D).1 (50 + 7 * i + 6) = 0 → (m = 60 ∨ ¬ (dsD (tgv 0 W0 len0) (tgv 1 W1 len1) N m D).1 (50 + 7 * i + 6) = nI 1) → ∀ (A1 : Nat → Nat → Int32) (f1 : Nat), (∀ j, j ≠ 2 → j ≠ 4 → j ≠ 6 → j ≠ 7 → j ≠ 8 → j ≠ 9 → A1 j = A j) → f1 ≤ fm + 40000 →  Q (some (.int (-1000000000 - nI 2))) n (mo q D (uA A1 3 (upd (A 3) 2 (A 3 2 + nI 1))) (uS S 18 (nI f1)) h0)) (hOk : ∀ i m, i < N → x = nI i → m ≤ 60 → (∀ u, u < m → (dsD (tgv 0 W0 len0) (tgv 1 W1 len1) N u D).1 (50 + 7 * i + 6) = nI 1) → (dsD (tgv 0 W0 len0) (tgv 1 W1 len1) N m D).1 (50 + 7 * i + 6) = 0 → ∀ (A1 : Nat → Nat → Int32) (f1 : Nat), (∀ j, j ≠ 2 → j ≠ 4 → j ≠ 6 → j ≠ 7 → j ≠ 8 → j ≠ 9 → A1 j = A j) → f1 ≤ fm + 40000 →  Q (some (.int (nI m))) n (mo q D A1 (uS S 18 (nI f1)) h0)) : Ct l M_Mo_when (d + 6) 0 0 [.ref q, .int x] n (mo q D A S h0) Q := by
  refine Ct.of (fun _ => trivial) (by decide) (Nat.le_of_ble_eq_true rfl) ?_
  refine V.aload_n d_Mo_when_0 rfl ?_
  refine V.iload_n d_Mo_when_1 rfl ?_
  refine V.callV1 d_Mo_when_2 k_Mo_207_Mo_isTree_MoV mo_o (Nat.le_of_ble_eq_true rfl) (by omega) (by omega) (c_Mo_isTree ?_)
  rw [hD.1]
  refine V.ifneB (tgt := 14) d_Mo_when_5 (by decide) (fun c_5 => ?_) (fun c_5 => ?_)
  · skip
    obtain ⟨i, hi, rfl⟩ := tre_nat hN c_5
    refine V.aload_n d_Mo_when_14 rfl ?_
    refine V.callV0 d_Mo_when_15 k_Mo_228_Mo_keepAside_MoV mo_o (Nat.le_of_ble_eq_true rfl) (by omega) (by omega) (c_Mo_keepAside ?_)
    refine V.iconst_ (nI 0) d_Mo_when_18 (by decide +kernel) ?_
    refine V.istore_n d_Mo_when_19 (by decide) ?_
    refine V.eqH (h' := mo q (dsD (tgv 0 W0 len0) (tgv 1 W1 len1) N 0 D).1 (uA A 2 (cpN 106 D (A 2))) (uS S 18 (nI fm)) h0) (by rw [show uS S 18 (nI fm) = S from uS_18 ef]; rfl) ?_
    refine V.lc (ls' := [(0, .ref q), (1, .int (nI i)), (2, .int (nI 0))]) rfl ?_
    refine up_to (G := fun m => ∀ (A1 : Nat → Nat → Int32) (f1 : Nat), (∀ j, j ≠ 2 → j ≠ 4 → j ≠ 6 → j ≠ 7 → j ≠ 8 → j ≠ 9 → A1 j = A j) → A1 2 = cpN 106 D (A 2) → f1 ≤ fm + 500 * m → (∀ u, u < m → (dsD (tgv 0 W0 len0) (tgv 1 W1 len1) N u D).1 (50 + 7 * i + 6) = nI 1) → V l M_Mo_when (d + 6) 0 0 20 [(0, .ref q), (1, .int (nI i)), (2, .int (nI m))] [] n (mo q (dsD (tgv 0 W0 len0) (tgv 1 W1 len1) N m D).1 A1 (uS S 18 (nI f1)) h0) 0 0 Q) (60) ?_ (fun m hm hn => ?_) 0 (by omega) (uA A 2 (cpN 106 D (A 2))) fm (fun j h1 _ _ _ _ _ => uA_n h1) uA_s (by omega) (fun u hu => absurd hu (by omega))
    · skip
      intro A1 f1 hA1 hA12 hf1 hall
      have hX := hD.days (cv := tgv 0 W0 len0) (wv := tgv 1 W1 len1) hN 60
      refine V.iload_n d_Mo_when_20 rfl ?_
      refine V.bipush_ (nI 60) d_Mo_when_21 (by decide +kernel) ?_
      refine V.geN (tgt := 47) d_Mo_when_23 (by decide) (by omega) (by omega) (fun c_23 => ?_) (fun c_23 => ?_)
      · skip
        refine V.aload_n d_Mo_when_47 rfl ?_
        refine V.iload_n d_Mo_when_48 rfl ?_
        refine V.bipush_ (nI 6) d_Mo_when_49 (by decide +kernel) ?_
        refine V.callV2 d_Mo_when_51 k_Mo_158_Mo_of_MoV mo_o (Nat.le_of_ble_eq_true rfl) (by omega) (by omega) (c_Mo_of (by omega) ?_)
        refine V.if_ne (tgt := 61) d_Mo_when_54 (by decide) (fun c_54 => ?_) (fun c_54 => ?_)
        · skip
          refine V.iconst_ (nI 0) d_Mo_when_61 (by decide +kernel) ?_
          refine V.istore_n d_Mo_when_62 (by decide) ?_
          have hbk : cpN 106 (cpN 106 D (A 2)) (dsD (tgv 0 W0 len0) (tgv 1 W1 len1) N 60 D).1 = D := bk (fun j hj => dsD_x hN (by unfold kpt; omega) _)
          refine V.aload_n d_Mo_when_63 rfl ?_
          refine V.callV0 d_Mo_when_64 k_Mo_231_Mo_putBack_MoV mo_o (Nat.le_of_ble_eq_true rfl) (by omega) (by omega) (c_Mo_putBack ?_)
          rw [hA12, hbk]
          refine V.iload_n d_Mo_when_67 rfl ?_
          refine V.if_eq (tgt := 75) d_Mo_when_68 (by decide) (fun c_68 => ?_) (fun c_68 => ?_)
          · skip
            refine V.aload_n d_Mo_when_75 rfl ?_
            refine V.iconst_ (nI 2) d_Mo_when_76 (by decide +kernel) ?_
            refine V.callV1 d_Mo_when_77 k_Mo_138_Mo_finds_MoV mo_o (Nat.le_of_ble_eq_true rfl) (by omega) (by omega) (c_Mo_finds (by omega) ?_)
            refine V.iret d_Mo_when_80 rfl (Nat.le_of_ble_eq_true rfl) (Nat.le_of_ble_eq_true rfl) ?_
            first
            | exact absurd c_68 (by decide +kernel)
            | exact absurd (show nI 0 = 0 by decide +kernel) c_68
            | exact hOk i 60 hi rfl (by omega) hall c_54 A1 f1 hA1 (by omega)
            | (rw [hA1 3 (by decide) (by decide) (by decide) (by decide) (by decide) (by decide)]; exact hNo i 60 hi rfl (by omega) hall c_54 (Or.inl rfl) A1 f1 hA1 (by omega))
          · skip
            refine V.iload_n d_Mo_when_71 rfl ?_
            refine V.goto (tgt := 80) d_Mo_when_72 (by decide) ?_
            refine V.iret d_Mo_when_80 rfl (Nat.le_of_ble_eq_true rfl) (Nat.le_of_ble_eq_true rfl) ?_
            first
            | exact absurd c_68 (by decide +kernel)
            | exact absurd (show nI 0 = 0 by decide +kernel) c_68
            | exact hOk i 60 hi rfl (by omega) hall c_54 A1 f1 hA1 (by omega)
            | (rw [hA1 3 (by decide) (by decide) (by decide) (by decide) (by decide) (by decide)]; exact hNo i 60 hi rfl (by omega) hall c_54 (Or.inl rfl) A1 f1 hA1 (by omega))
        · skip
          refine V.iconst_ (nI 1) d_Mo_when_57 (by decide +kernel) ?_
          refine V.goto (tgt := 62) d_Mo_when_58 (by decide) ?_
          refine V.istore_n d_Mo_when_62 (by decide) ?_
          have hbk : cpN 106 (cpN 106 D (A 2)) (dsD (tgv 0 W0 len0) (tgv 1 W1 len1) N 60 D).1 = D := bk (fun j hj => dsD_x hN (by unfold kpt; omega) _)
          refine V.aload_n d_Mo_when_63 rfl ?_
          refine V.callV0 d_Mo_when_64 k_Mo_231_Mo_putBack_MoV mo_o (Nat.le_of_ble_eq_true rfl) (by omega) (by omega) (c_Mo_putBack ?_)
          rw [hA12, hbk]
          refine V.iload_n d_Mo_when_67 rfl ?_
          refine V.if_eq (tgt := 75) d_Mo_when_68 (by decide) (fun c_68 => ?_) (fun c_68 => ?_)
          · skip
            refine V.aload_n d_Mo_when_75 rfl ?_
            refine V.iconst_ (nI 2) d_Mo_when_76 (by decide +kernel) ?_
            refine V.callV1 d_Mo_when_77 k_Mo_138_Mo_finds_MoV mo_o (Nat.le_of_ble_eq_true rfl) (by omega) (by omega) (c_Mo_finds (by omega) ?_)
            refine V.iret d_Mo_when_80 rfl (Nat.le_of_ble_eq_true rfl) (Nat.le_of_ble_eq_true rfl) ?_
            first
            | exact absurd c_68 (by decide +kernel)
            | exact absurd (show nI 0 = 0 by decide +kernel) c_68
            | exact hOk i 60 hi rfl (by omega) hall c_54 A1 f1 hA1 (by omega)
            | (rw [hA1 3 (by decide) (by decide) (by decide) (by decide) (by decide) (by decide)]; exact hNo i 60 hi rfl (by omega) hall c_54 (Or.inl rfl) A1 f1 hA1 (by omega))
          · skip
            refine V.iload_n d_Mo_when_71 rfl ?_
            refine V.goto (tgt := 80) d_Mo_when_72 (by decide) ?_
            refine V.iret d_Mo_when_80 rfl (Nat.le_of_ble_eq_true rfl) (Nat.le_of_ble_eq_true rfl) ?_
            first
            | exact absurd c_68 (by decide +kernel)
            | exact absurd (show nI 0 = 0 by decide +kernel) c_68
            | exact hOk i 60 hi rfl (by omega) hall c_54 A1 f1 hA1 (by omega)
            | (rw [hA1 3 (by decide) (by decide) (by decide) (by decide) (by decide) (by decide)]; exact hNo i 60 hi rfl (by omega) hall c_54 (Or.inl rfl) A1 f1 hA1 (by omega))
      · skip
        exact absurd c_23 (by omega)
    · skip
      intro A1 f1 hA1 hA12 hf1 hall
      have hX := hD.days (cv := tgv 0 W0 len0) (wv := tgv 1 W1 len1) hN m
      have hdl := dayD_len (cv := tgv 0 W0 len0) (wv := tgv 1 W1 len1) hN (D := (dsD (tgv 0 W0 len0) (tgv 1 W1 len1) N m D).1)
      rw [dsD_s] at hn
      refine V.iload_n d_Mo_when_20 rfl ?_
      refine V.bipush_ (nI 60) d_Mo_when_21 (by decide +kernel) ?_
      refine V.geN (tgt := 47) d_Mo_when_23 (by decide) (by omega) (by omega) (fun c_23 => ?_) (fun c_23 => ?_)
      · skip
        exact absurd c_23 (by omega)
      · skip
        refine V.aload_n d_Mo_when_26 rfl ?_
        refine V.iload_n d_Mo_when_27 rfl ?_
        refine V.bipush_ (nI 6) d_Mo_when_28 (by decide +kernel) ?_
        refine V.callV2 d_Mo_when_30 k_Mo_158_Mo_of_MoV mo_o (Nat.le_of_ble_eq_true rfl) (by omega) (by omega) (c_Mo_of (by omega) ?_)
        refine V.iconst_ (nI 1) d_Mo_when_33 (by decide +kernel) ?_
        refine V.icmp_ne (tgt := 47) d_Mo_when_34 (by decide) (fun c_34 => ?_) (fun c_34 => ?_)
        · skip
          refine V.aload_n d_Mo_when_47 rfl ?_
          refine V.iload_n d_Mo_when_48 rfl ?_
          refine V.bipush_ (nI 6) d_Mo_when_49 (by decide +kernel) ?_
          refine V.callV2 d_Mo_when_51 k_Mo_158_Mo_of_MoV mo_o (Nat.le_of_ble_eq_true rfl) (by omega) (by omega) (c_Mo_of (by omega) ?_)
          refine V.if_ne (tgt := 61) d_Mo_when_54 (by decide) (fun c_54 => ?_) (fun c_54 => ?_)
          · skip
            refine V.iconst_ (nI 0) d_Mo_when_61 (by decide +kernel) ?_
            refine V.istore_n d_Mo_when_62 (by decide) ?_
            have hbk : cpN 106 (cpN 106 D (A 2)) (dsD (tgv 0 W0 len0) (tgv 1 W1 len1) N m D).1 = D := bk (fun j hj => dsD_x hN (by unfold kpt; omega) _)
            refine V.aload_n d_Mo_when_63 rfl ?_
            refine V.callV0 d_Mo_when_64 k_Mo_231_Mo_putBack_MoV mo_o (Nat.le_of_ble_eq_true rfl) (by omega) (by omega) (c_Mo_putBack ?_)
            rw [hA12, hbk]
            refine V.iload_n d_Mo_when_67 rfl ?_
            refine V.if_eq (tgt := 75) d_Mo_when_68 (by decide) (fun c_68 => ?_) (fun c_68 => ?_)
            · skip
              refine V.aload_n d_Mo_when_75 rfl ?_
              refine V.iconst_ (nI 2) d_Mo_when_76 (by decide +kernel) ?_
              refine V.callV1 d_Mo_when_77 k_Mo_138_Mo_finds_MoV mo_o (Nat.le_of_ble_eq_true rfl) (by omega) (by omega) (c_Mo_finds (by omega) ?_)
              refine V.iret d_Mo_when_80 rfl (Nat.le_of_ble_eq_true rfl) (Nat.le_of_ble_eq_true rfl) ?_
              first
              | exact absurd c_68 (by decide +kernel)
              | exact absurd (show nI 0 = 0 by decide +kernel) c_68
              | exact hOk i m hi rfl (by omega) hall c_54 A1 f1 hA1 (by omega)
              | (rw [hA1 3 (by decide) (by decide) (by decide) (by decide) (by decide) (by decide)]; exact hNo i m hi rfl (by omega) hall c_54 (Or.inr c_34) A1 f1 hA1 (by omega))
            · skip
              refine V.iload_n d_Mo_when_71 rfl ?_
              refine V.goto (tgt := 80) d_Mo_when_72 (by decide) ?_
              refine V.iret d_Mo_when_80 rfl (Nat.le_of_ble_eq_true rfl) (Nat.le_of_ble_eq_true rfl) ?_
              first
              | exact absurd c_68 (by decide +kernel)
              | exact absurd (show nI 0 = 0 by decide +kernel) c_68
              | exact hOk i m hi rfl (by omega) hall c_54 A1 f1 hA1 (by omega)
              | (rw [hA1 3 (by decide) (by decide) (by decide) (by decide) (by decide) (by decide)]; exact hNo i m hi rfl (by omega) hall c_54 (Or.inr c_34) A1 f1 hA1 (by omega))
          · skip
            refine V.iconst_ (nI 1) d_Mo_when_57 (by decide +kernel) ?_
            refine V.goto (tgt := 62) d_Mo_when_58 (by decide) ?_
            refine V.istore_n d_Mo_when_62 (by decide) ?_
            have hbk : cpN 106 (cpN 106 D (A 2)) (dsD (tgv 0 W0 len0) (tgv 1 W1 len1) N m D).1 = D := bk (fun j hj => dsD_x hN (by unfold kpt; omega) _)
            refine V.aload_n d_Mo_when_63 rfl ?_
            refine V.callV0 d_Mo_when_64 k_Mo_231_Mo_putBack_MoV mo_o (Nat.le_of_ble_eq_true rfl) (by omega) (by omega) (c_Mo_putBack ?_)
            rw [hA12, hbk]
            refine V.iload_n d_Mo_when_67 rfl ?_
            refine V.if_eq (tgt := 75) d_Mo_when_68 (by decide) (fun c_68 => ?_) (fun c_68 => ?_)
            · skip
              refine V.aload_n d_Mo_when_75 rfl ?_
              refine V.iconst_ (nI 2) d_Mo_when_76 (by decide +kernel) ?_
              refine V.callV1 d_Mo_when_77 k_Mo_138_Mo_finds_MoV mo_o (Nat.le_of_ble_eq_true rfl) (by omega) (by omega) (c_Mo_finds (by omega) ?_)
              refine V.iret d_Mo_when_80 rfl (Nat.le_of_ble_eq_true rfl) (Nat.le_of_ble_eq_true rfl) ?_
              first
              | exact absurd c_68 (by decide +kernel)
              | exact absurd (show nI 0 = 0 by decide +kernel) c_68
              | exact hOk i m hi rfl (by omega) hall c_54 A1 f1 hA1 (by omega)
              | (rw [hA1 3 (by decide) (by decide) (by decide) (by decide) (by decide) (by decide)]; exact hNo i m hi rfl (by omega) hall c_54 (Or.inr c_34) A1 f1 hA1 (by omega))
            · skip
              refine V.iload_n d_Mo_when_71 rfl ?_
              refine V.goto (tgt := 80) d_Mo_when_72 (by decide) ?_
              refine V.iret d_Mo_when_80 rfl (Nat.le_of_ble_eq_true rfl) (Nat.le_of_ble_eq_true rfl) ?_
              first
              | exact absurd c_68 (by decide +kernel)
              | exact absurd (show nI 0 = 0 by decide +kernel) c_68
              | exact hOk i m hi rfl (by omega) hall c_54 A1 f1 hA1 (by omega)
              | (rw [hA1 3 (by decide) (by decide) (by decide) (by decide) (by decide) (by decide)]; exact hNo i m hi rfl (by omega) hall c_54 (Or.inr c_34) A1 f1 hA1 (by omega))
        · skip
          refine V.aload_n d_Mo_when_37 rfl ?_
          refine V.callV0 d_Mo_when_38 k_Mo_186_Mo_dayGoes_MoV mo_o (Nat.le_of_ble_eq_true rfl) (by omega) (by omega) (c_Mo_dayGoes (fm := f1) hN hX.1 hX.2.1 hX.2.2.1 hX.2.2.2.1 (by omega) uS_s (fun A2 hA2 hA92 => ?_))
          refine V.incN d_Mo_when_41 rfl (by decide) ?_
          refine V.goto (tgt := 20) d_Mo_when_44 (by decide) ?_
          rw [uS_uu]
          exact V.lc rfl (hn A2 _ (fun j h1 h2 h3 h4 h5 h6 => (hA2 j h2 h3 h4 h5 h6).trans (hA1 j h1 h2 h3 h4 h5 h6)) ((hA2 2 (by decide) (by decide) (by decide) (by decide) (by decide)).trans hA12) (by omega) (fun u hu => by
            by_cases hum : u = m
            · subst hum; exact c_34
            · exact hall u (by omega)))
  · skip
    refine V.aload_n d_Mo_when_8 rfl ?_
    refine V.iconst_ (nI 1) d_Mo_when_9 (by decide +kernel) ?_
    refine V.callV1 d_Mo_when_10 k_Mo_138_Mo_finds_MoV mo_o (Nat.le_of_ble_eq_true rfl) (by omega) (by omega) (c_Mo_finds (by omega) ?_)
    refine V.iret d_Mo_when_13 rfl (Nat.le_of_ble_eq_true rfl) (Nat.le_of_ble_eq_true rfl) ?_
    exact hE c_5
