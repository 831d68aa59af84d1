abbrev M_Mo_check : MD := (⟨"FelledByNamesModel", "check", "()I"⟩, prog_14_method_87_code, 4, (some .int), fun _ => True)
theorem d_Mo_check_0 : decode prog_14_method_87_code 0 = .ok (.aload_n 0, 1) := by decide +kernel
theorem d_Mo_check_1 : decode prog_14_method_87_code 1 = .ok (.getfield 7, 3) := by decide +kernel
theorem d_Mo_check_4 : decode prog_14_method_87_code 4 = .ok (.bipush 7, 2) := by decide +kernel
theorem d_Mo_check_6 : decode prog_14_method_87_code 6 = .ok (.iaload, 1) := by decide +kernel
theorem d_Mo_check_7 : decode prog_14_method_87_code 7 = .ok (.istore_n 1, 1) := by decide +kernel
theorem d_Mo_check_8 : decode prog_14_method_87_code 8 = .ok (.aload_n 0, 1) := by decide +kernel
theorem d_Mo_check_9 : decode prog_14_method_87_code 9 = .ok (.getfield 7, 3) := by decide +kernel
theorem d_Mo_check_12 : decode prog_14_method_87_code 12 = .ok (.bipush 7, 2) := by decide +kernel
theorem d_Mo_check_14 : decode prog_14_method_87_code 14 = .ok (.iconst 0, 1) := by decide +kernel
theorem d_Mo_check_15 : decode prog_14_method_87_code 15 = .ok (.iastore, 1) := by decide +kernel
theorem d_Mo_check_16 : decode prog_14_method_87_code 16 = .ok (.aload_n 0, 1) := by decide +kernel
theorem d_Mo_check_17 : decode prog_14_method_87_code 17 = .ok (.invokevirtual 228, 3) := by decide +kernel
theorem d_Mo_check_20 : decode prog_14_method_87_code 20 = .ok (.iconst 0, 1) := by decide +kernel
theorem d_Mo_check_21 : decode prog_14_method_87_code 21 = .ok (.istore_n 2, 1) := by decide +kernel
theorem d_Mo_check_22 : decode prog_14_method_87_code 22 = .ok (.iconst 0, 1) := by decide +kernel
theorem d_Mo_check_23 : decode prog_14_method_87_code 23 = .ok (.istore_n 3, 1) := by decide +kernel
theorem d_Mo_check_24 : decode prog_14_method_87_code 24 = .ok (.iload_n 3, 1) := by decide +kernel
theorem d_Mo_check_25 : decode prog_14_method_87_code 25 = .ok (.iload_n 1, 1) := by decide +kernel
theorem d_Mo_check_26 : decode prog_14_method_87_code 26 = .ok (.if_icmp .ge 44, 3) := by decide +kernel
theorem d_Mo_check_70 : decode prog_14_method_87_code 70 = .ok (.aload_n 0, 1) := by decide +kernel
theorem d_Mo_check_71 : decode prog_14_method_87_code 71 = .ok (.invokevirtual 231, 3) := by decide +kernel
theorem d_Mo_check_74 : decode prog_14_method_87_code 74 = .ok (.iload_n 2, 1) := by decide +kernel
theorem d_Mo_check_75 : decode prog_14_method_87_code 75 = .ok (.ireturn, 1) := by decide +kernel
theorem d_Mo_check_29 : decode prog_14_method_87_code 29 = .ok (.iload_n 2, 1) := by decide +kernel
theorem d_Mo_check_30 : decode prog_14_method_87_code 30 = .ok (.ifCond .ne 40, 3) := by decide +kernel
theorem d_Mo_check_33 : decode prog_14_method_87_code 33 = .ok (.aload_n 0, 1) := by decide +kernel
theorem d_Mo_check_34 : decode prog_14_method_87_code 34 = .ok (.invokevirtual 186, 3) := by decide +kernel
theorem d_Mo_check_37 : decode prog_14_method_87_code 37 = .ok (.aload_n 0, 1) := by decide +kernel
theorem d_Mo_check_38 : decode prog_14_method_87_code 38 = .ok (.getfield 7, 3) := by decide +kernel
theorem d_Mo_check_41 : decode prog_14_method_87_code 41 = .ok (.bipush 108, 2) := by decide +kernel
theorem d_Mo_check_43 : decode prog_14_method_87_code 43 = .ok (.iload_n 3, 1) := by decide +kernel
theorem d_Mo_check_44 : decode prog_14_method_87_code 44 = .ok (.iadd, 1) := by decide +kernel
theorem d_Mo_check_45 : decode prog_14_method_87_code 45 = .ok (.iaload, 1) := by decide +kernel
theorem d_Mo_check_46 : decode prog_14_method_87_code 46 = .ok (.aload_n 0, 1) := by decide +kernel
theorem d_Mo_check_47 : decode prog_14_method_87_code 47 = .ok (.invokevirtual 234, 3) := by decide +kernel
theorem d_Mo_check_50 : decode prog_14_method_87_code 50 = .ok (.invokestatic 242, 3) := by decide +kernel
theorem d_Mo_check_53 : decode prog_14_method_87_code 53 = .ok (.if_icmp .ne 7, 3) := by decide +kernel
theorem d_Mo_check_60 : decode prog_14_method_87_code 60 = .ok (.iconst 1, 1) := by decide +kernel
theorem d_Mo_check_61 : decode prog_14_method_87_code 61 = .ok (.iload_n 3, 1) := by decide +kernel
theorem d_Mo_check_62 : decode prog_14_method_87_code 62 = .ok (.iadd, 1) := by decide +kernel
theorem d_Mo_check_63 : decode prog_14_method_87_code 63 = .ok (.istore_n 2, 1) := by decide +kernel
theorem d_Mo_check_64 : decode prog_14_method_87_code 64 = .ok (.iinc 3 1, 3) := by decide +kernel
theorem d_Mo_check_67 : decode prog_14_method_87_code 67 = .ok (.goto (-43), 3) := by decide +kernel
theorem d_Mo_check_56 : decode prog_14_method_87_code 56 = .ok (.iconst 0, 1) := by decide +kernel
theorem d_Mo_check_57 : decode prog_14_method_87_code 57 = .ok (.goto 6, 3) := by decide +kernel
set_option maxRecDepth 100000 in
theorem c_Mo_check {w : Nat} {N fm len0 len1 : Nat} {W0 W1 : Nat → Nat} {l : Launch} {d q n : Nat} {D : Nat → Int32} {A : Nat → Nat → Int32} {S : Nat → Int32} {h0 : HP} {Q : QT} (hN : N ≤ 8) (hD : DW D N W0 len0 W1 len1) (hf : fm < 2 ^ 25) (ef : S 18 = nI fm) (hw : w ≤ 20) (ew : D 7 = nI w) (hOk : ∀ r : Int32, ((r = nI 0 ∧ ∀ u, u < w → D (108 + u) = btc (stb (dsD (tgv 0 W0 len0) (tgv 1 W1 len1) N (u + 1) (upd D 7 (nI 0))).1 N)) ∨ ∃ k, k < w ∧ r = nI (1 + k) ∧ (∀ u, u < k → D (108 + u) = btc (stb (dsD (tgv 0 W0 len0) (tgv 1 W1 len1) N (u + 1) (upd D 7 (nI 0))).1 N)) ∧ ¬ D (108 + k) = btc (stb (dsD (tgv 0 W0 len0) (tgv 1 W1 len1) N (k + 1) (upd D 7 (nI 0))).1 N)) → ∀ (A1 : Nat → Nat → Int32) (f1 : Nat), (∀ j, j ≠ 2 → j ≠ 4 → j ≠ 6 → j ≠ 7 → j ≠ 8 → j ≠ 9 → A1 j = A j) → f1 ≤ fm + 40000 →  Q (some (.int r)) n (mo q (upd D 7 (nI 0)) A1 (uS S 18 (nI f1)) h0)) : Ct l M_Mo_check (d + 6) 0 0 [.ref q] n (mo q D A S h0) Q := by
  refine Ct.of (fun _ => trivial) (by decide) (Nat.le_of_ble_eq_true rfl) ?_
  have hD7 : DW (upd D 7 (nI 0)) N W0 len0 W1 len1 := hD.up hN (fun j hj => pk_un (by omega))
  refine V.aload_n d_Mo_check_0 rfl ?_
  refine V.get d_Mo_check_1 f_Mo_7_Mo mo_o rfl ?_
  refine V.bipush_ (nI 7) d_Mo_check_4 (by decide +kernel) ?_
  refine V.mldd d_Mo_check_6 (by omega) ?_
  refine V.top ew ?_
  refine V.istore_n d_Mo_check_7 (by decide) ?_
  refine V.aload_n d_Mo_check_8 rfl ?_
  refine V.get d_Mo_check_9 f_Mo_7_Mo mo_o rfl ?_
  refine V.bipush_ (nI 7) d_Mo_check_12 (by decide +kernel) ?_
  refine V.iconst_ (nI 0) d_Mo_check_14 (by decide +kernel) ?_
  refine V.mstd d_Mo_check_15 (by omega) ?_
  refine V.aload_n d_Mo_check_16 rfl ?_
  refine V.callV0 d_Mo_check_17 k_Mo_228_Mo_keepAside_MoV mo_o (Nat.le_of_ble_eq_true rfl) (by omega) (by omega) (c_Mo_keepAside ?_)
  refine V.iconst_ (nI 0) d_Mo_check_20 (by decide +kernel) ?_
  refine V.istore_n d_Mo_check_21 (by decide) ?_
  refine V.iconst_ (nI 0) d_Mo_check_22 (by decide +kernel) ?_
  refine V.istore_n d_Mo_check_23 (by decide) ?_
  refine V.eqH (h' := mo q (dsD (tgv 0 W0 len0) (tgv 1 W1 len1) N 0 (upd D 7 (nI 0))).1 (uA A 2 (cpN 106 (upd D 7 (nI 0)) (A 2))) (uS S 18 (nI fm)) h0) (by rw [show uS S 18 (nI fm) = S from uS_18 ef]; rfl) ?_
  refine V.lc (ls' := [(0, .ref q), (1, .int (nI w)), (2, .int (nI 0)), (3, .int (nI 0))]) rfl ?_
  refine up_to (G := fun k => ∀ (A1 : Nat → Nat → Int32) (f1 : Nat), (∀ j, j ≠ 2 → j ≠ 4 → j ≠ 6 → j ≠ 7 → j ≠ 8 → j ≠ 9 → A1 j = A j) → A1 2 = cpN 106 (upd D 7 (nI 0)) (A 2) → f1 ≤ fm + 500 * k → (∀ u, u < k → D (108 + u) = btc (stb (dsD (tgv 0 W0 len0) (tgv 1 W1 len1) N (u + 1) (upd D 7 (nI 0))).1 N)) → V l M_Mo_check (d + 6) 0 0 24 [(0, .ref q), (1, .int (nI w)), (2, .int (nI 0)), (3, .int (nI k))] [] n (mo q (dsD (tgv 0 W0 len0) (tgv 1 W1 len1) N k (upd D 7 (nI 0))).1 A1 (uS S 18 (nI f1)) h0) 0 0 Q) (w) ?_ (fun k hk hn => ?_) 0 (by omega) (uA A 2 (cpN 106 (upd D 7 (nI 0)) (A 2))) fm (fun j h1 _ _ _ _ _ => uA_n h1) uA_s (by omega) (fun u hu => absurd hu (by omega))
  · skip
    intro A1 f1 hA1 hA12 hf1 hall
    refine V.iload_n d_Mo_check_24 rfl ?_
    refine V.iload_n d_Mo_check_25 rfl ?_
    refine V.geN (tgt := 70) d_Mo_check_26 (by decide) (by omega) (by omega) (fun c_26 => ?_) (fun c_26 => ?_)
    · skip
      refine V.aload_n d_Mo_check_70 rfl ?_
      refine V.callV0 d_Mo_check_71 k_Mo_231_Mo_putBack_MoV mo_o (Nat.le_of_ble_eq_true rfl) (by omega) (by omega) (c_Mo_putBack ?_)
      have hbk : cpN 106 (cpN 106 (upd D 7 (nI 0)) (A 2)) (dsD (tgv 0 W0 len0) (tgv 1 W1 len1) N w (upd D 7 (nI 0))).1 = (upd D 7 (nI 0)) := bk (fun j hj => dsD_x hN (by unfold kpt; omega) _)
      rw [hA12, hbk]
      refine V.iload_n d_Mo_check_74 rfl ?_
      refine V.iret d_Mo_check_75 rfl (Nat.le_of_ble_eq_true rfl) (Nat.le_of_ble_eq_true rfl) ?_
      first
      | exact hOk _ (Or.inl ⟨rfl, hall⟩) A1 f1 hA1 (by omega)
      | exact absurd (show nI 0 = 0 by decide +kernel) c_30
    · skip
      exact absurd c_26 (by omega)
  · skip
    intro A1 f1 hA1 hA12 hf1 hall
    have hX := hD7.days (cv := tgv 0 W0 len0) (wv := tgv 1 W1 len1) hN k
    have hX1 := hX.day (cv := tgv 0 W0 len0) (wv := tgv 1 W1 len1) hN
    have hdl := dayD_len (cv := tgv 0 W0 len0) (wv := tgv 1 W1 len1) hN (D := (dsD (tgv 0 W0 len0) (tgv 1 W1 len1) N k (upd D 7 (nI 0))).1)
    rw [dsD_s] at hn
    refine V.iload_n d_Mo_check_24 rfl ?_
    refine V.iload_n d_Mo_check_25 rfl ?_
    refine V.geN (tgt := 70) d_Mo_check_26 (by decide) (by omega) (by omega) (fun c_26 => ?_) (fun c_26 => ?_)
    · skip
      first | exact absurd c_26 (by omega) | exact absurd (show nI 0 = 0 by decide +kernel) c_30
    · skip
      refine V.iload_n d_Mo_check_29 rfl ?_
      refine V.if_ne (tgt := 70) d_Mo_check_30 (by decide) (fun c_30 => ?_) (fun c_30 => ?_)
      · skip
        first | exact absurd c_26 (by omega) | exact absurd (show nI 0 = 0 by decide +kernel) c_30
      · skip
        refine V.aload_n d_Mo_check_33 rfl ?_
        refine V.callV0 d_Mo_check_34 k_Mo_186_Mo_dayGoes_MoV mo_o (Nat.le_of_ble_eq_true rfl) (by omega) (by omega) (c_Mo_dayGoes (fm := f1) hN hX.1 hX.2.1 hX.2.2.1 hX.2.2.2.1 (by omega) uS_s (fun A2 hA2 hA92 => ?_))
        rw [uS_uu]
        have he108 : (dayD (tgv 0 W0 len0) (tgv 1 W1 len1) N (dsD (tgv 0 W0 len0) (tgv 1 W1 len1) N k (upd D 7 (nI 0))).1).1 (108 + k) = D (108 + k) := by
          rw [dayD_x hN (by unfold kpt; omega), dsD_x hN (by unfold kpt; omega), pk_un (by omega)]
        refine V.aload_n d_Mo_check_37 rfl ?_
        refine V.get d_Mo_check_38 f_Mo_7_Mo mo_o rfl ?_
        refine V.bipush_ (nI 108) d_Mo_check_41 (by decide +kernel) ?_
        refine V.iload_n d_Mo_check_43 rfl ?_
        refine V.addN d_Mo_check_44 ?_
        refine V.mldd d_Mo_check_45 (by omega) ?_
        refine V.aload_n d_Mo_check_46 rfl ?_
        refine V.callV0 d_Mo_check_47 k_Mo_234_Mo_standing_MoV mo_o (Nat.le_of_ble_eq_true rfl) (by omega) (by omega) (c_Mo_standing hN hX1.1 ?_)
        refine V.callS1 d_Mo_check_50 k_Mo_242_Mo_bitsS (Nat.le_of_ble_eq_true rfl) (by omega) (by omega) (c_Mo_bits ?_)
        refine V.icmp_ne (tgt := 60) d_Mo_check_53 (by decide) (fun c_53 => ?_) (fun c_53 => ?_)
        · skip
          refine V.iconst_ (nI 1) d_Mo_check_60 (by decide +kernel) ?_
          refine V.iload_n d_Mo_check_61 rfl ?_
          refine V.addN d_Mo_check_62 ?_
          refine V.istore_n d_Mo_check_63 (by decide) ?_
          refine V.incN d_Mo_check_64 rfl (by decide) ?_
          refine V.goto (tgt := 24) d_Mo_check_67 (by decide) ?_
          refine V.iload_n d_Mo_check_24 rfl ?_
          refine V.iload_n d_Mo_check_25 rfl ?_
          refine V.geN (tgt := 70) d_Mo_check_26 (by decide) (by omega) (by omega) (fun c_26 => ?_) (fun c_26 => ?_)
          · skip
            refine V.aload_n d_Mo_check_70 rfl ?_
            refine V.callV0 d_Mo_check_71 k_Mo_231_Mo_putBack_MoV mo_o (Nat.le_of_ble_eq_true rfl) (by omega) (by omega) (c_Mo_putBack ?_)
            have hbk : cpN 106 (cpN 106 (upd D 7 (nI 0)) (A 2)) (dayD (tgv 0 W0 len0) (tgv 1 W1 len1) N (dsD (tgv 0 W0 len0) (tgv 1 W1 len1) N k (upd D 7 (nI 0))).1).1 = (upd D 7 (nI 0)) := bk (fun j hj => (dayD_x hN (by unfold kpt; omega)).trans (dsD_x hN (by unfold kpt; omega) _))
            rw [hA2 2 (by decide) (by decide) (by decide) (by decide) (by decide), hA12, hbk]
            refine V.iload_n d_Mo_check_74 rfl ?_
            refine V.iret d_Mo_check_75 rfl (Nat.le_of_ble_eq_true rfl) (Nat.le_of_ble_eq_true rfl) ?_
            first
            | exact absurd (show nI (1 + k) = nI 0 from c_30) (fun z => absurd ((nI_eq (by omega) (by decide)).mp z) (by omega))
            | (rw [he108] at c_53; exact hOk _ (Or.inr ⟨k, hk, rfl, hall, c_53⟩) A2 _ (fun j h1 h2 h3 h4 h5 h6 => (hA2 j h2 h3 h4 h5 h6).trans (hA1 j h1 h2 h3 h4 h5 h6)) (by omega))
          · skip
            refine V.iload_n d_Mo_check_29 rfl ?_
            refine V.if_ne (tgt := 70) d_Mo_check_30 (by decide) (fun c_30 => ?_) (fun c_30 => ?_)
            · skip
              refine V.aload_n d_Mo_check_70 rfl ?_
              refine V.callV0 d_Mo_check_71 k_Mo_231_Mo_putBack_MoV mo_o (Nat.le_of_ble_eq_true rfl) (by omega) (by omega) (c_Mo_putBack ?_)
              have hbk : cpN 106 (cpN 106 (upd D 7 (nI 0)) (A 2)) (dayD (tgv 0 W0 len0) (tgv 1 W1 len1) N (dsD (tgv 0 W0 len0) (tgv 1 W1 len1) N k (upd D 7 (nI 0))).1).1 = (upd D 7 (nI 0)) := bk (fun j hj => (dayD_x hN (by unfold kpt; omega)).trans (dsD_x hN (by unfold kpt; omega) _))
              rw [hA2 2 (by decide) (by decide) (by decide) (by decide) (by decide), hA12, hbk]
              refine V.iload_n d_Mo_check_74 rfl ?_
              refine V.iret d_Mo_check_75 rfl (Nat.le_of_ble_eq_true rfl) (Nat.le_of_ble_eq_true rfl) ?_
              first
              | exact absurd (show nI (1 + k) = nI 0 from c_30) (fun z => absurd ((nI_eq (by omega) (by decide)).mp z) (by omega))
              | (rw [he108] at c_53; exact hOk _ (Or.inr ⟨k, hk, rfl, hall, c_53⟩) A2 _ (fun j h1 h2 h3 h4 h5 h6 => (hA2 j h2 h3 h4 h5 h6).trans (hA1 j h1 h2 h3 h4 h5 h6)) (by omega))
            · skip
              exact absurd ((nI_eq (by omega) (by decide)).mp (show nI (1 + k) = nI 0 from c_30)) (by omega)
        · skip
          refine V.iconst_ (nI 0) d_Mo_check_56 (by decide +kernel) ?_
          refine V.goto (tgt := 63) d_Mo_check_57 (by decide) ?_
          refine V.istore_n d_Mo_check_63 (by decide) ?_
          refine V.incN d_Mo_check_64 rfl (by decide) ?_
          refine V.goto (tgt := 24) d_Mo_check_67 (by decide) ?_
          exact V.lc rfl (hn A2 _ (fun j h1 h2 h3 h4 h5 h6 => (hA2 j h2 h3 h4 h5 h6).trans (hA1 j h1 h2 h3 h4 h5 h6)) ((hA2 2 (by decide) (by decide) (by decide) (by decide) (by decide)).trans hA12) (by omega) (fun u hu => by
            by_cases hum : u = k
            · subst hum; rw [he108] at c_53; exact c_53
            · exact hall u (by omega)))
