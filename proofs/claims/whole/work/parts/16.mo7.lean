theorem two_nat {x y : Int32} (h : two x y = true) : ∃ a b, a ≤ 5 ∧ b ≤ 5 ∧ a ≠ b ∧ x = nI a ∧ y = nI b := by
  unfold two at h
  simp only [Bool.and_eq_true, Bool.not_eq_true', decide_eq_false_iff_not] at h
  obtain ⟨⟨h1, h2⟩, h3⟩ := h
  obtain ⟨a, ha, ea⟩ := wi_nat (by decide) h1
  obtain ⟨b, hb, eb⟩ := wi_nat (by decide) h2
  exact ⟨a, b, ha, hb, fun e => h3 (by rw [ea, eb, e]), ea, eb⟩
theorem tre_nat {x : Int32} {N : Nat} (hN : N ≤ 8) (h : wi x (nI 0) (nI N - nI 1) = true) : ∃ i, i < N ∧ x = nI i := by
  by_cases h0 : N = 0
  · subst h0
    obtain ⟨h1, h2⟩ := wi_t h
    have h3 : nI 0 ≤ nI 0 - nI 1 := Int32.le_trans h1 h2
    exact absurd h3 (by decide +kernel)
  · rw [pk_sub (by omega)] at h
    obtain ⟨i, hi, ei⟩ := wi_nat (by omega) h
    exact ⟨i, by omega, ei⟩
abbrev M_Mo_hold : MD := (⟨"FelledByNamesModel", "hold", "(III)I"⟩, prog_14_method_43_code, 5, (some .int), fun _ => True)
theorem d_Mo_hold_0 : decode prog_14_method_43_code 0 = .ok (.iload_n 1, 1) := by decide +kernel
theorem d_Mo_hold_1 : decode prog_14_method_43_code 1 = .ok (.iload_n 2, 1) := by decide +kernel
theorem d_Mo_hold_2 : decode prog_14_method_43_code 2 = .ok (.invokestatic 189, 3) := by decide +kernel
theorem kB_Mo_areTwo : kB M_Mo_areTwo 2 := ⟨tm 15 (by decide +kernel) rfl, tm 1234 (by decide +kernel) rfl, ⟨by decide, by decide, by decide +kernel⟩, by decide⟩
theorem k_Mo_189_Mo_areTwoS : kS "FelledByNamesModel" 189 M_Mo_areTwo 2 := ⟨kB_Mo_areTwo, tm 1232 (by decide +kernel) rfl, tm 1233 (by decide +kernel) rfl⟩
theorem d_Mo_hold_5 : decode prog_14_method_43_code 5 = .ok (.ifCond .eq 15, 3) := by decide +kernel
theorem d_Mo_hold_20 : decode prog_14_method_43_code 20 = .ok (.aload_n 0, 1) := by decide +kernel
theorem d_Mo_hold_21 : decode prog_14_method_43_code 21 = .ok (.iconst 1, 1) := by decide +kernel
theorem d_Mo_hold_22 : decode prog_14_method_43_code 22 = .ok (.invokevirtual 138, 3) := by decide +kernel
theorem kB_Mo_finds : kB M_Mo_finds 1 := ⟨tm 15 (by decide +kernel) rfl, tm 1149 (by decide +kernel) rfl, ⟨by decide, by decide, by decide +kernel⟩, by decide⟩
theorem k_Mo_138_Mo_finds_MoV : kV "FelledByNamesModel" 138 5 M_Mo_finds 1 := ⟨kB_Mo_finds, tm 1146 (by decide +kernel) rfl, tm 1148 (by decide +kernel) rfl, tp 13 (by decide +kernel) rfl, _, rfl, rfl⟩
theorem d_Mo_hold_25 : decode prog_14_method_43_code 25 = .ok (.ireturn, 1) := by decide +kernel
theorem d_Mo_hold_8 : decode prog_14_method_43_code 8 = .ok (.iload_n 3, 1) := by decide +kernel
theorem d_Mo_hold_9 : decode prog_14_method_43_code 9 = .ok (.i2l, 1) := by decide +kernel
theorem d_Mo_hold_10 : decode prog_14_method_43_code 10 = .ok (.lconst 0, 1) := by decide +kernel
theorem d_Mo_hold_11 : decode prog_14_method_43_code 11 = .ok (.ldc2_w 193, 3) := by decide +kernel
theorem d_Mo_hold_14 : decode prog_14_method_43_code 14 = .ok (.invokestatic 56, 3) := by decide +kernel
theorem d_Mo_hold_17 : decode prog_14_method_43_code 17 = .ok (.ifCond .ne 9, 3) := by decide +kernel
theorem d_Mo_hold_26 : decode prog_14_method_43_code 26 = .ok (.aload_n 0, 1) := by decide +kernel
theorem d_Mo_hold_27 : decode prog_14_method_43_code 27 = .ok (.iload_n 1, 1) := by decide +kernel
theorem d_Mo_hold_28 : decode prog_14_method_43_code 28 = .ok (.iload_n 2, 1) := by decide +kernel
theorem d_Mo_hold_29 : decode prog_14_method_43_code 29 = .ok (.invokevirtual 180, 3) := by decide +kernel
theorem d_Mo_hold_32 : decode prog_14_method_43_code 32 = .ok (.istore 4, 2) := by decide +kernel
theorem d_Mo_hold_34 : decode prog_14_method_43_code 34 = .ok (.aload_n 0, 1) := by decide +kernel
theorem d_Mo_hold_35 : decode prog_14_method_43_code 35 = .ok (.getfield 7, 3) := by decide +kernel
theorem d_Mo_hold_38 : decode prog_14_method_43_code 38 = .ok (.bipush 8, 2) := by decide +kernel
theorem d_Mo_hold_40 : decode prog_14_method_43_code 40 = .ok (.bipush 6, 2) := by decide +kernel
theorem d_Mo_hold_42 : decode prog_14_method_43_code 42 = .ok (.iload_n 1, 1) := by decide +kernel
theorem d_Mo_hold_43 : decode prog_14_method_43_code 43 = .ok (.imul, 1) := by decide +kernel
theorem d_Mo_hold_44 : decode prog_14_method_43_code 44 = .ok (.iadd, 1) := by decide +kernel
theorem d_Mo_hold_45 : decode prog_14_method_43_code 45 = .ok (.iload_n 2, 1) := by decide +kernel
theorem d_Mo_hold_46 : decode prog_14_method_43_code 46 = .ok (.iadd, 1) := by decide +kernel
theorem d_Mo_hold_47 : decode prog_14_method_43_code 47 = .ok (.iload_n 3, 1) := by decide +kernel
theorem d_Mo_hold_48 : decode prog_14_method_43_code 48 = .ok (.iastore, 1) := by decide +kernel
theorem d_Mo_hold_49 : decode prog_14_method_43_code 49 = .ok (.iload 4, 2) := by decide +kernel
theorem d_Mo_hold_51 : decode prog_14_method_43_code 51 = .ok (.ireturn, 1) := by decide +kernel
set_option maxRecDepth 100000 in
theorem c_Mo_hold {x y v : Int32} {l : Launch} {d q n : Nat} {D : Nat → Int32} {A : Nat → Nat → Int32} {S : Nat → Int32} {h0 : HP} {Q : QT} (hE : (two x y && wi v (nI 0) (nI 99)) = false → Q (some (.int (-1000000000 - nI 1))) n (mo q D (uA A 3 (upd (A 3) 1 (A 3 1 + nI 1))) S h0)) (hOk : ∀ a b, a ≤ 5 → b ≤ 5 → a ≠ b → x = nI a → y = nI b → wi v (nI 0) (nI 99) = true → Q (some (.int (D (8 + 6 * a + b)))) n (mo q (upd D (8 + 6 * a + b) v) A S h0)) : Ct l M_Mo_hold (d + 3) 0 0 [.ref q, .int x, .int y, .int v] n (mo q D A S h0) Q := by
  refine Ct.of (fun _ => trivial) (by decide) (Nat.le_of_ble_eq_true rfl) ?_
  refine V.iload_n d_Mo_hold_0 rfl ?_
  refine V.iload_n d_Mo_hold_1 rfl ?_
  refine V.callS2 d_Mo_hold_2 k_Mo_189_Mo_areTwoS (Nat.le_of_ble_eq_true rfl) (by omega) (by omega) (c_Mo_areTwo ?_)
  refine V.ifeqB (tgt := 20) d_Mo_hold_5 (by decide) (fun c_5 => ?_) (fun c_5 => ?_)
  · skip
    refine V.aload_n d_Mo_hold_20 rfl ?_
    refine V.iconst_ (nI 1) d_Mo_hold_21 (by decide +kernel) ?_
    refine V.callV1 d_Mo_hold_22 k_Mo_138_Mo_finds_MoV mo_o (Nat.le_of_ble_eq_true rfl) (by omega) (by omega) (c_Mo_finds (by omega) ?_)
    refine V.iret d_Mo_hold_25 rfl (Nat.le_of_ble_eq_true rfl) (Nat.le_of_ble_eq_true rfl) ?_
    exact hE (by simp only [c_5, Bool.and_false, Bool.false_and, Bool.and_true, Bool.true_and])
  · skip
    refine V.iload_n d_Mo_hold_8 rfl ?_
    refine V.i2l d_Mo_hold_9 ?_
    refine V.lconst_ ((nI 0).toInt64) d_Mo_hold_10 (by decide +kernel) ?_
    refine V.ldc2 (v := 99) d_Mo_hold_11 (tm 1239 (by decide +kernel) rfl) ?_
    refine V.eqS (st' := .long ((nI 99).toInt64) :: _) rfl ?_
    refine V.callS3 d_Mo_hold_14 k_Mo_56_Mo_inS (Nat.le_of_ble_eq_true rfl) (by omega) (by omega) (c_Mo_in ?_)
    refine V.ifneB (tgt := 26) d_Mo_hold_17 (by decide) (fun c_17 => ?_) (fun c_17 => ?_)
    · skip
      obtain ⟨a, b, ha, hb, hab, rfl, rfl⟩ := two_nat c_5
      refine V.aload_n d_Mo_hold_26 rfl ?_
      refine V.iload_n d_Mo_hold_27 rfl ?_
      refine V.iload_n d_Mo_hold_28 rfl ?_
      refine V.callV2 d_Mo_hold_29 k_Mo_180_Mo_hold0_MoV mo_o (Nat.le_of_ble_eq_true rfl) (by omega) (by omega) (c_Mo_hold0 (by omega) ?_)
      refine V.istore d_Mo_hold_32 (by decide) ?_
      refine V.aload_n d_Mo_hold_34 rfl ?_
      refine V.get d_Mo_hold_35 f_Mo_7_Mo mo_o rfl ?_
      refine V.bipush_ (nI 8) d_Mo_hold_38 (by decide +kernel) ?_
      refine V.bipush_ (nI 6) d_Mo_hold_40 (by decide +kernel) ?_
      refine V.iload_n d_Mo_hold_42 rfl ?_
      refine V.mulN d_Mo_hold_43 ?_
      refine V.addN d_Mo_hold_44 ?_
      refine V.iload_n d_Mo_hold_45 rfl ?_
      refine V.addN d_Mo_hold_46 ?_
      refine V.iload_n d_Mo_hold_47 rfl ?_
      refine V.mstd d_Mo_hold_48 (by omega) ?_
      refine V.iload d_Mo_hold_49 rfl ?_
      refine V.iret d_Mo_hold_51 rfl (Nat.le_of_ble_eq_true rfl) (Nat.le_of_ble_eq_true rfl) ?_
      exact hOk a b ha hb hab rfl rfl c_17
    · skip
      refine V.aload_n d_Mo_hold_20 rfl ?_
      refine V.iconst_ (nI 1) d_Mo_hold_21 (by decide +kernel) ?_
      refine V.callV1 d_Mo_hold_22 k_Mo_138_Mo_finds_MoV mo_o (Nat.le_of_ble_eq_true rfl) (by omega) (by omega) (c_Mo_finds (by omega) ?_)
      refine V.iret d_Mo_hold_25 rfl (Nat.le_of_ble_eq_true rfl) (Nat.le_of_ble_eq_true rfl) ?_
      exact hE (by simp only [c_5, c_17, Bool.and_false, Bool.false_and, Bool.and_true, Bool.true_and])
abbrev M_Mo_holds : MD := (⟨"FelledByNamesModel", "holds", "(II)I"⟩, prog_14_method_44_code, 3, (some .int), fun _ => True)
theorem d_Mo_holds_0 : decode prog_14_method_44_code 0 = .ok (.iload_n 1, 1) := by decide +kernel
theorem d_Mo_holds_1 : decode prog_14_method_44_code 1 = .ok (.iload_n 2, 1) := by decide +kernel
theorem d_Mo_holds_2 : decode prog_14_method_44_code 2 = .ok (.invokestatic 189, 3) := by decide +kernel
theorem d_Mo_holds_5 : decode prog_14_method_44_code 5 = .ok (.ifCond .eq 12, 3) := by decide +kernel
theorem d_Mo_holds_17 : decode prog_14_method_44_code 17 = .ok (.aload_n 0, 1) := by decide +kernel
theorem d_Mo_holds_18 : decode prog_14_method_44_code 18 = .ok (.iconst 1, 1) := by decide +kernel
theorem d_Mo_holds_19 : decode prog_14_method_44_code 19 = .ok (.invokevirtual 138, 3) := by decide +kernel
theorem d_Mo_holds_22 : decode prog_14_method_44_code 22 = .ok (.ireturn, 1) := by decide +kernel
theorem d_Mo_holds_8 : decode prog_14_method_44_code 8 = .ok (.aload_n 0, 1) := by decide +kernel
theorem d_Mo_holds_9 : decode prog_14_method_44_code 9 = .ok (.iload_n 1, 1) := by decide +kernel
theorem d_Mo_holds_10 : decode prog_14_method_44_code 10 = .ok (.iload_n 2, 1) := by decide +kernel
theorem d_Mo_holds_11 : decode prog_14_method_44_code 11 = .ok (.invokevirtual 180, 3) := by decide +kernel
theorem d_Mo_holds_14 : decode prog_14_method_44_code 14 = .ok (.goto 8, 3) := by decide +kernel
set_option maxRecDepth 100000 in
theorem c_Mo_holds {x y : Int32} {l : Launch} {d q n : Nat} {D : Nat → Int32} {A : Nat → Nat → Int32} {S : Nat → Int32} {h0 : HP} {Q : QT} (hE : two x y = false → Q (some (.int (-1000000000 - nI 1))) n (mo q D (uA A 3 (upd (A 3) 1 (A 3 1 + nI 1))) S h0)) (hOk : ∀ a b, a ≤ 5 → b ≤ 5 → a ≠ b → x = nI a → y = nI b → Q (some (.int (D (8 + 6 * a + b)))) n (mo q D A S h0)) : Ct l M_Mo_holds (d + 3) 0 0 [.ref q, .int x, .int y] n (mo q D A S h0) Q := by
  refine Ct.of (fun _ => trivial) (by decide) (Nat.le_of_ble_eq_true rfl) ?_
  refine V.iload_n d_Mo_holds_0 rfl ?_
  refine V.iload_n d_Mo_holds_1 rfl ?_
  refine V.callS2 d_Mo_holds_2 k_Mo_189_Mo_areTwoS (Nat.le_of_ble_eq_true rfl) (by omega) (by omega) (c_Mo_areTwo ?_)
  refine V.ifeqB (tgt := 17) d_Mo_holds_5 (by decide) (fun c_5 => ?_) (fun c_5 => ?_)
  · skip
    refine V.aload_n d_Mo_holds_17 rfl ?_
    refine V.iconst_ (nI 1) d_Mo_holds_18 (by decide +kernel) ?_
    refine V.callV1 d_Mo_holds_19 k_Mo_138_Mo_finds_MoV mo_o (Nat.le_of_ble_eq_true rfl) (by omega) (by omega) (c_Mo_finds (by omega) ?_)
    refine V.iret d_Mo_holds_22 rfl (Nat.le_of_ble_eq_true rfl) (Nat.le_of_ble_eq_true rfl) ?_
    first | exact hOk a b ha hb hab rfl rfl | exact hE c_5
  · skip
    obtain ⟨a, b, ha, hb, hab, rfl, rfl⟩ := two_nat c_5
    refine V.aload_n d_Mo_holds_8 rfl ?_
    refine V.iload_n d_Mo_holds_9 rfl ?_
    refine V.iload_n d_Mo_holds_10 rfl ?_
    refine V.callV2 d_Mo_holds_11 k_Mo_180_Mo_hold0_MoV mo_o (Nat.le_of_ble_eq_true rfl) (by omega) (by omega) (c_Mo_hold0 (by omega) ?_)
    refine V.goto (tgt := 22) d_Mo_holds_14 (by decide) ?_
    refine V.iret d_Mo_holds_22 rfl (Nat.le_of_ble_eq_true rfl) (Nat.le_of_ble_eq_true rfl) ?_
    first | exact hOk a b ha hb hab rfl rfl | exact hE c_5
abbrev M_Mo_talk : MD := (⟨"FelledByNamesModel", "talk", "(II)I"⟩, prog_14_method_45_code, 4, (some .int), fun _ => True)
theorem d_Mo_talk_0 : decode prog_14_method_45_code 0 = .ok (.iload_n 1, 1) := by decide +kernel
theorem d_Mo_talk_1 : decode prog_14_method_45_code 1 = .ok (.invokestatic 62, 3) := by decide +kernel
theorem d_Mo_talk_4 : decode prog_14_method_45_code 4 = .ok (.ifCond .eq 15, 3) := by decide +kernel
theorem d_Mo_talk_19 : decode prog_14_method_45_code 19 = .ok (.aload_n 0, 1) := by decide +kernel
theorem d_Mo_talk_20 : decode prog_14_method_45_code 20 = .ok (.iconst 1, 1) := by decide +kernel
theorem d_Mo_talk_21 : decode prog_14_method_45_code 21 = .ok (.invokevirtual 138, 3) := by decide +kernel
theorem d_Mo_talk_24 : decode prog_14_method_45_code 24 = .ok (.ireturn, 1) := by decide +kernel
theorem d_Mo_talk_7 : decode prog_14_method_45_code 7 = .ok (.iload_n 2, 1) := by decide +kernel
theorem d_Mo_talk_8 : decode prog_14_method_45_code 8 = .ok (.i2l, 1) := by decide +kernel
theorem d_Mo_talk_9 : decode prog_14_method_45_code 9 = .ok (.lconst 0, 1) := by decide +kernel
theorem d_Mo_talk_10 : decode prog_14_method_45_code 10 = .ok (.ldc2_w 195, 3) := by decide +kernel
theorem d_Mo_talk_13 : decode prog_14_method_45_code 13 = .ok (.invokestatic 56, 3) := by decide +kernel
theorem d_Mo_talk_16 : decode prog_14_method_45_code 16 = .ok (.ifCond .ne 9, 3) := by decide +kernel
theorem d_Mo_talk_25 : decode prog_14_method_45_code 25 = .ok (.aload_n 0, 1) := by decide +kernel
theorem d_Mo_talk_26 : decode prog_14_method_45_code 26 = .ok (.getfield 7, 3) := by decide +kernel
theorem d_Mo_talk_29 : decode prog_14_method_45_code 29 = .ok (.bipush 44, 2) := by decide +kernel
theorem d_Mo_talk_31 : decode prog_14_method_45_code 31 = .ok (.iload_n 1, 1) := by decide +kernel
theorem d_Mo_talk_32 : decode prog_14_method_45_code 32 = .ok (.iadd, 1) := by decide +kernel
theorem d_Mo_talk_33 : decode prog_14_method_45_code 33 = .ok (.iaload, 1) := by decide +kernel
theorem d_Mo_talk_34 : decode prog_14_method_45_code 34 = .ok (.istore_n 3, 1) := by decide +kernel
theorem d_Mo_talk_35 : decode prog_14_method_45_code 35 = .ok (.aload_n 0, 1) := by decide +kernel
theorem d_Mo_talk_36 : decode prog_14_method_45_code 36 = .ok (.getfield 7, 3) := by decide +kernel
theorem d_Mo_talk_39 : decode prog_14_method_45_code 39 = .ok (.bipush 44, 2) := by decide +kernel
theorem d_Mo_talk_41 : decode prog_14_method_45_code 41 = .ok (.iload_n 1, 1) := by decide +kernel
theorem d_Mo_talk_42 : decode prog_14_method_45_code 42 = .ok (.iadd, 1) := by decide +kernel
theorem d_Mo_talk_43 : decode prog_14_method_45_code 43 = .ok (.iload_n 2, 1) := by decide +kernel
theorem d_Mo_talk_44 : decode prog_14_method_45_code 44 = .ok (.iastore, 1) := by decide +kernel
theorem d_Mo_talk_45 : decode prog_14_method_45_code 45 = .ok (.iload_n 3, 1) := by decide +kernel
theorem d_Mo_talk_46 : decode prog_14_method_45_code 46 = .ok (.ireturn, 1) := by decide +kernel
set_option maxRecDepth 100000 in
theorem c_Mo_talk {x v : Int32} {l : Launch} {d q n : Nat} {D : Nat → Int32} {A : Nat → Nat → Int32} {S : Nat → Int32} {h0 : HP} {Q : QT} (hE : (wi x (nI 0) (nI 5) && wi v (nI 0) (nI 9)) = false → Q (some (.int (-1000000000 - nI 1))) n (mo q D (uA A 3 (upd (A 3) 1 (A 3 1 + nI 1))) S h0)) (hOk : ∀ a, a ≤ 5 → x = nI a → wi v (nI 0) (nI 9) = true → Q (some (.int (D (44 + a)))) n (mo q (upd D (44 + a) v) A S h0)) : Ct l M_Mo_talk (d + 2) 0 0 [.ref q, .int x, .int v] n (mo q D A S h0) Q := by
  refine Ct.of (fun _ => trivial) (by decide) (Nat.le_of_ble_eq_true rfl) ?_
  refine V.iload_n d_Mo_talk_0 rfl ?_
  refine V.callS1 d_Mo_talk_1 k_Mo_62_Mo_isPersonS (Nat.le_of_ble_eq_true rfl) (by omega) (by omega) (c_Mo_isPerson ?_)
  refine V.ifeqB (tgt := 19) d_Mo_talk_4 (by decide) (fun c_4 => ?_) (fun c_4 => ?_)
  · skip
    refine V.aload_n d_Mo_talk_19 rfl ?_
    refine V.iconst_ (nI 1) d_Mo_talk_20 (by decide +kernel) ?_
    refine V.callV1 d_Mo_talk_21 k_Mo_138_Mo_finds_MoV mo_o (Nat.le_of_ble_eq_true rfl) (by omega) (by omega) (c_Mo_finds (by omega) ?_)
    refine V.iret d_Mo_talk_24 rfl (Nat.le_of_ble_eq_true rfl) (Nat.le_of_ble_eq_true rfl) ?_
    exact hE (by simp only [c_4, Bool.and_false, Bool.false_and, Bool.and_true, Bool.true_and])
  · skip
    refine V.iload_n d_Mo_talk_7 rfl ?_
    refine V.i2l d_Mo_talk_8 ?_
    refine V.lconst_ ((nI 0).toInt64) d_Mo_talk_9 (by decide +kernel) ?_
    refine V.ldc2 (v := 9) d_Mo_talk_10 (tm 1252 (by decide +kernel) rfl) ?_
    refine V.eqS (st' := .long ((nI 9).toInt64) :: _) rfl ?_
    refine V.callS3 d_Mo_talk_13 k_Mo_56_Mo_inS (Nat.le_of_ble_eq_true rfl) (by omega) (by omega) (c_Mo_in ?_)
    refine V.ifneB (tgt := 25) d_Mo_talk_16 (by decide) (fun c_16 => ?_) (fun c_16 => ?_)
    · skip
      obtain ⟨a, ha, rfl⟩ := wi_nat (by decide) c_4
      refine V.aload_n d_Mo_talk_25 rfl ?_
      refine V.get d_Mo_talk_26 f_Mo_7_Mo mo_o rfl ?_
      refine V.bipush_ (nI 44) d_Mo_talk_29 (by decide +kernel) ?_
      refine V.iload_n d_Mo_talk_31 rfl ?_
      refine V.addN d_Mo_talk_32 ?_
      refine V.mldd d_Mo_talk_33 (by omega) ?_
      refine V.istore_n d_Mo_talk_34 (by decide) ?_
      refine V.aload_n d_Mo_talk_35 rfl ?_
      refine V.get d_Mo_talk_36 f_Mo_7_Mo mo_o rfl ?_
      refine V.bipush_ (nI 44) d_Mo_talk_39 (by decide +kernel) ?_
      refine V.iload_n d_Mo_talk_41 rfl ?_
      refine V.addN d_Mo_talk_42 ?_
      refine V.iload_n d_Mo_talk_43 rfl ?_
      refine V.mstd d_Mo_talk_44 (by omega) ?_
      refine V.iload_n d_Mo_talk_45 rfl ?_
      refine V.iret d_Mo_talk_46 rfl (Nat.le_of_ble_eq_true rfl) (Nat.le_of_ble_eq_true rfl) ?_
      exact hOk a ha rfl c_16
    · skip
      refine V.aload_n d_Mo_talk_19 rfl ?_
      refine V.iconst_ (nI 1) d_Mo_talk_20 (by decide +kernel) ?_
      refine V.callV1 d_Mo_talk_21 k_Mo_138_Mo_finds_MoV mo_o (Nat.le_of_ble_eq_true rfl) (by omega) (by omega) (c_Mo_finds (by omega) ?_)
      refine V.iret d_Mo_talk_24 rfl (Nat.le_of_ble_eq_true rfl) (Nat.le_of_ble_eq_true rfl) ?_
      exact hE (by simp only [c_4, c_16, Bool.and_false, Bool.false_and, Bool.and_true, Bool.true_and])
abbrev M_Mo_talkOf : MD := (⟨"FelledByNamesModel", "talkOf", "(I)I"⟩, prog_14_method_46_code, 2, (some .int), fun _ => True)
theorem d_Mo_talkOf_0 : decode prog_14_method_46_code 0 = .ok (.iload_n 1, 1) := by decide +kernel
theorem d_Mo_talkOf_1 : decode prog_14_method_46_code 1 = .ok (.invokestatic 62, 3) := by decide +kernel
theorem d_Mo_talkOf_4 : decode prog_14_method_46_code 4 = .ok (.ifCond .eq 15, 3) := by decide +kernel
theorem d_Mo_talkOf_19 : decode prog_14_method_46_code 19 = .ok (.aload_n 0, 1) := by decide +kernel
theorem d_Mo_talkOf_20 : decode prog_14_method_46_code 20 = .ok (.iconst 1, 1) := by decide +kernel
theorem d_Mo_talkOf_21 : decode prog_14_method_46_code 21 = .ok (.invokevirtual 138, 3) := by decide +kernel
theorem d_Mo_talkOf_24 : decode prog_14_method_46_code 24 = .ok (.ireturn, 1) := by decide +kernel
theorem d_Mo_talkOf_7 : decode prog_14_method_46_code 7 = .ok (.aload_n 0, 1) := by decide +kernel
theorem d_Mo_talkOf_8 : decode prog_14_method_46_code 8 = .ok (.getfield 7, 3) := by decide +kernel
theorem d_Mo_talkOf_11 : decode prog_14_method_46_code 11 = .ok (.bipush 44, 2) := by decide +kernel
theorem d_Mo_talkOf_13 : decode prog_14_method_46_code 13 = .ok (.iload_n 1, 1) := by decide +kernel
theorem d_Mo_talkOf_14 : decode prog_14_method_46_code 14 = .ok (.iadd, 1) := by decide +kernel
theorem d_Mo_talkOf_15 : decode prog_14_method_46_code 15 = .ok (.iaload, 1) := by decide +kernel
theorem d_Mo_talkOf_16 : decode prog_14_method_46_code 16 = .ok (.goto 8, 3) := by decide +kernel
set_option maxRecDepth 100000 in
theorem c_Mo_talkOf {x : Int32} {l : Launch} {d q n : Nat} {D : Nat → Int32} {A : Nat → Nat → Int32} {S : Nat → Int32} {h0 : HP} {Q : QT} (hE : wi x (nI 0) (nI 5) = false → Q (some (.int (-1000000000 - nI 1))) n (mo q D (uA A 3 (upd (A 3) 1 (A 3 1 + nI 1))) S h0)) (hOk : ∀ a, a ≤ 5 → x = nI a → Q (some (.int (D (44 + a)))) n (mo q D A S h0)) : Ct l M_Mo_talkOf (d + 2) 0 0 [.ref q, .int x] n (mo q D A S h0) Q := by
  refine Ct.of (fun _ => trivial) (by decide) (Nat.le_of_ble_eq_true rfl) ?_
  refine V.iload_n d_Mo_talkOf_0 rfl ?_
  refine V.callS1 d_Mo_talkOf_1 k_Mo_62_Mo_isPersonS (Nat.le_of_ble_eq_true rfl) (by omega) (by omega) (c_Mo_isPerson ?_)
  refine V.ifeqB (tgt := 19) d_Mo_talkOf_4 (by decide) (fun c_4 => ?_) (fun c_4 => ?_)
  · skip
    refine V.aload_n d_Mo_talkOf_19 rfl ?_
    refine V.iconst_ (nI 1) d_Mo_talkOf_20 (by decide +kernel) ?_
    refine V.callV1 d_Mo_talkOf_21 k_Mo_138_Mo_finds_MoV mo_o (Nat.le_of_ble_eq_true rfl) (by omega) (by omega) (c_Mo_finds (by omega) ?_)
    refine V.iret d_Mo_talkOf_24 rfl (Nat.le_of_ble_eq_true rfl) (Nat.le_of_ble_eq_true rfl) ?_
    first | exact hOk a ha rfl | exact hE c_4
  · skip
    obtain ⟨a, ha, rfl⟩ := wi_nat (by decide) c_4
    refine V.aload_n d_Mo_talkOf_7 rfl ?_
    refine V.get d_Mo_talkOf_8 f_Mo_7_Mo mo_o rfl ?_
    refine V.bipush_ (nI 44) d_Mo_talkOf_11 (by decide +kernel) ?_
    refine V.iload_n d_Mo_talkOf_13 rfl ?_
    refine V.addN d_Mo_talkOf_14 ?_
    refine V.mldd d_Mo_talkOf_15 (by omega) ?_
    refine V.goto (tgt := 24) d_Mo_talkOf_16 (by decide) ?_
    refine V.iret d_Mo_talkOf_24 rfl (Nat.le_of_ble_eq_true rfl) (Nat.le_of_ble_eq_true rfl) ?_
    first | exact hOk a ha rfl | exact hE c_4
abbrev M_Mo_set : MD := (⟨"FelledByNamesModel", "set", "(II)I"⟩, prog_14_method_47_code, 4, (some .int), fun _ => True)
theorem d_Mo_set_0 : decode prog_14_method_47_code 0 = .ok (.iload_n 1, 1) := by decide +kernel
theorem d_Mo_set_1 : decode prog_14_method_47_code 1 = .ok (.i2l, 1) := by decide +kernel
theorem d_Mo_set_2 : decode prog_14_method_47_code 2 = .ok (.lconst 0, 1) := by decide +kernel
theorem d_Mo_set_3 : decode prog_14_method_47_code 3 = .ok (.ldc2_w 197, 3) := by decide +kernel
theorem d_Mo_set_6 : decode prog_14_method_47_code 6 = .ok (.invokestatic 56, 3) := by decide +kernel
theorem d_Mo_set_9 : decode prog_14_method_47_code 9 = .ok (.ifCond .eq 36, 3) := by decide +kernel
theorem d_Mo_set_45 : decode prog_14_method_47_code 45 = .ok (.aload_n 0, 1) := by decide +kernel
theorem d_Mo_set_46 : decode prog_14_method_47_code 46 = .ok (.iconst 1, 1) := by decide +kernel
theorem d_Mo_set_47 : decode prog_14_method_47_code 47 = .ok (.invokevirtual 138, 3) := by decide +kernel
theorem d_Mo_set_50 : decode prog_14_method_47_code 50 = .ok (.ireturn, 1) := by decide +kernel
theorem d_Mo_set_12 : decode prog_14_method_47_code 12 = .ok (.iload_n 2, 1) := by decide +kernel
theorem d_Mo_set_13 : decode prog_14_method_47_code 13 = .ok (.i2l, 1) := by decide +kernel
theorem d_Mo_set_14 : decode prog_14_method_47_code 14 = .ok (.lconst 0, 1) := by decide +kernel
theorem d_Mo_set_15 : decode prog_14_method_47_code 15 = .ok (.iload_n 1, 1) := by decide +kernel
theorem d_Mo_set_16 : decode prog_14_method_47_code 16 = .ok (.ifCond .ne 9, 3) := by decide +kernel
theorem d_Mo_set_25 : decode prog_14_method_47_code 25 = .ok (.iload_n 1, 1) := by decide +kernel
theorem d_Mo_set_26 : decode prog_14_method_47_code 26 = .ok (.iconst 1, 1) := by decide +kernel
theorem d_Mo_set_27 : decode prog_14_method_47_code 27 = .ok (.if_icmp .ne 9, 3) := by decide +kernel
theorem d_Mo_set_36 : decode prog_14_method_47_code 36 = .ok (.ldc2_w 203, 3) := by decide +kernel
theorem d_Mo_set_39 : decode prog_14_method_47_code 39 = .ok (.invokestatic 56, 3) := by decide +kernel
theorem d_Mo_set_42 : decode prog_14_method_47_code 42 = .ok (.ifCond .ne 9, 3) := by decide +kernel
theorem d_Mo_set_51 : decode prog_14_method_47_code 51 = .ok (.aload_n 0, 1) := by decide +kernel
theorem d_Mo_set_52 : decode prog_14_method_47_code 52 = .ok (.getfield 7, 3) := by decide +kernel
theorem d_Mo_set_55 : decode prog_14_method_47_code 55 = .ok (.iconst 2, 1) := by decide +kernel
theorem d_Mo_set_56 : decode prog_14_method_47_code 56 = .ok (.iload_n 1, 1) := by decide +kernel
theorem d_Mo_set_57 : decode prog_14_method_47_code 57 = .ok (.iadd, 1) := by decide +kernel
theorem d_Mo_set_58 : decode prog_14_method_47_code 58 = .ok (.iaload, 1) := by decide +kernel
theorem d_Mo_set_59 : decode prog_14_method_47_code 59 = .ok (.istore_n 3, 1) := by decide +kernel
theorem d_Mo_set_60 : decode prog_14_method_47_code 60 = .ok (.aload_n 0, 1) := by decide +kernel
theorem d_Mo_set_61 : decode prog_14_method_47_code 61 = .ok (.getfield 7, 3) := by decide +kernel
theorem d_Mo_set_64 : decode prog_14_method_47_code 64 = .ok (.iconst 2, 1) := by decide +kernel
theorem d_Mo_set_65 : decode prog_14_method_47_code 65 = .ok (.iload_n 1, 1) := by decide +kernel
theorem d_Mo_set_66 : decode prog_14_method_47_code 66 = .ok (.iadd, 1) := by decide +kernel
theorem d_Mo_set_67 : decode prog_14_method_47_code 67 = .ok (.iload_n 2, 1) := by decide +kernel
theorem d_Mo_set_68 : decode prog_14_method_47_code 68 = .ok (.iastore, 1) := by decide +kernel
theorem d_Mo_set_69 : decode prog_14_method_47_code 69 = .ok (.iload_n 3, 1) := by decide +kernel
theorem d_Mo_set_70 : decode prog_14_method_47_code 70 = .ok (.ireturn, 1) := by decide +kernel
theorem d_Mo_set_30 : decode prog_14_method_47_code 30 = .ok (.ldc2_w 201, 3) := by decide +kernel
theorem d_Mo_set_33 : decode prog_14_method_47_code 33 = .ok (.goto 6, 3) := by decide +kernel
theorem d_Mo_set_19 : decode prog_14_method_47_code 19 = .ok (.ldc2_w 199, 3) := by decide +kernel
theorem d_Mo_set_22 : decode prog_14_method_47_code 22 = .ok (.goto 17, 3) := by decide +kernel
set_option maxRecDepth 100000 in
theorem c_Mo_set {x v : Int32} {l : Launch} {d q n : Nat} {D : Nat → Int32} {A : Nat → Nat → Int32} {S : Nat → Int32} {h0 : HP} {Q : QT} (hE : (wi x (nI 0) (nI 2) && wi v (nI 0) (if x = nI 0 then nI 15 else if x = nI 1 then nI 999 else nI 99999)) = false → Q (some (.int (-1000000000 - nI 1))) n (mo q D (uA A 3 (upd (A 3) 1 (A 3 1 + nI 1))) S h0)) (hOk : ∀ a, a ≤ 2 → x = nI a → wi v (nI 0) (if x = nI 0 then nI 15 else if x = nI 1 then nI 999 else nI 99999) = true → Q (some (.int (D (2 + a)))) n (mo q (upd D (2 + a) v) A S h0)) : Ct l M_Mo_set (d + 2) 0 0 [.ref q, .int x, .int v] n (mo q D A S h0) Q := by
  refine Ct.of (fun _ => trivial) (by decide) (Nat.le_of_ble_eq_true rfl) ?_
  refine V.iload_n d_Mo_set_0 rfl ?_
  refine V.i2l d_Mo_set_1 ?_
  refine V.lconst_ ((nI 0).toInt64) d_Mo_set_2 (by decide +kernel) ?_
  refine V.ldc2 (v := 2) d_Mo_set_3 (tm 1261 (by decide +kernel) rfl) ?_
  refine V.eqS (st' := .long ((nI 2).toInt64) :: _) rfl ?_
  refine V.callS3 d_Mo_set_6 k_Mo_56_Mo_inS (Nat.le_of_ble_eq_true rfl) (by omega) (by omega) (c_Mo_in ?_)
  refine V.ifeqB (tgt := 45) d_Mo_set_9 (by decide) (fun c_9 => ?_) (fun c_9 => ?_)
  · skip
    refine V.aload_n d_Mo_set_45 rfl ?_
    refine V.iconst_ (nI 1) d_Mo_set_46 (by decide +kernel) ?_
    refine V.callV1 d_Mo_set_47 k_Mo_138_Mo_finds_MoV mo_o (Nat.le_of_ble_eq_true rfl) (by omega) (by omega) (c_Mo_finds (by omega) ?_)
    refine V.iret d_Mo_set_50 rfl (Nat.le_of_ble_eq_true rfl) (Nat.le_of_ble_eq_true rfl) ?_
    exact hE (by first | (rw [hif, c_42, Bool.and_false]; done) | (rw [c_9, Bool.false_and]))
  · skip
    refine V.iload_n d_Mo_set_12 rfl ?_
    refine V.i2l d_Mo_set_13 ?_
    refine V.lconst_ ((nI 0).toInt64) d_Mo_set_14 (by decide +kernel) ?_
    refine V.iload_n d_Mo_set_15 rfl ?_
    refine V.if_ne (tgt := 25) d_Mo_set_16 (by decide) (fun c_16 => ?_) (fun c_16 => ?_)
    · skip
      refine V.iload_n d_Mo_set_25 rfl ?_
      refine V.iconst_ (nI 1) d_Mo_set_26 (by decide +kernel) ?_
      refine V.icmp_ne (tgt := 36) d_Mo_set_27 (by decide) (fun c_27 => ?_) (fun c_27 => ?_)
      · skip
        have hif : (if x = nI 0 then nI 15 else if x = nI 1 then nI 999 else nI 99999) = nI 99999 := by
          first | (rw [if_pos (show x = nI 0 from c_16)]; done) | (rw [if_neg (show ¬ x = nI 0 from c_16), if_pos c_27]; done) | rw [if_neg (show ¬ x = nI 0 from c_16), if_neg c_27]
        refine V.ldc2 (v := 99999) d_Mo_set_36 (tm 1264 (by decide +kernel) rfl) ?_
        refine V.eqS (st' := .long ((nI 99999).toInt64) :: _) rfl ?_
        refine V.callS3 d_Mo_set_39 k_Mo_56_Mo_inS (Nat.le_of_ble_eq_true rfl) (by omega) (by omega) (c_Mo_in ?_)
        refine V.ifneB (tgt := 51) d_Mo_set_42 (by decide) (fun c_42 => ?_) (fun c_42 => ?_)
        · skip
          rw [← hif] at c_42
          obtain ⟨a, ha, hxa⟩ := wi_nat (by decide) c_9
          have hOk' := hOk a ha hxa c_42
          subst hxa
          refine V.aload_n d_Mo_set_51 rfl ?_
          refine V.get d_Mo_set_52 f_Mo_7_Mo mo_o rfl ?_
          refine V.iconst_ (nI 2) d_Mo_set_55 (by decide +kernel) ?_
          refine V.iload_n d_Mo_set_56 rfl ?_
          refine V.addN d_Mo_set_57 ?_
          refine V.mldd d_Mo_set_58 (by omega) ?_
          refine V.istore_n d_Mo_set_59 (by decide) ?_
          refine V.aload_n d_Mo_set_60 rfl ?_
          refine V.get d_Mo_set_61 f_Mo_7_Mo mo_o rfl ?_
          refine V.iconst_ (nI 2) d_Mo_set_64 (by decide +kernel) ?_
          refine V.iload_n d_Mo_set_65 rfl ?_
          refine V.addN d_Mo_set_66 ?_
          refine V.iload_n d_Mo_set_67 rfl ?_
          refine V.mstd d_Mo_set_68 (by omega) ?_
          refine V.iload_n d_Mo_set_69 rfl ?_
          refine V.iret d_Mo_set_70 rfl (Nat.le_of_ble_eq_true rfl) (Nat.le_of_ble_eq_true rfl) ?_
          exact hOk'
        · skip
          refine V.aload_n d_Mo_set_45 rfl ?_
          refine V.iconst_ (nI 1) d_Mo_set_46 (by decide +kernel) ?_
          refine V.callV1 d_Mo_set_47 k_Mo_138_Mo_finds_MoV mo_o (Nat.le_of_ble_eq_true rfl) (by omega) (by omega) (c_Mo_finds (by omega) ?_)
          refine V.iret d_Mo_set_50 rfl (Nat.le_of_ble_eq_true rfl) (Nat.le_of_ble_eq_true rfl) ?_
          exact hE (by first | (rw [hif, c_42, Bool.and_false]; done) | (rw [c_9, Bool.false_and]))
      · skip
        have hif : (if x = nI 0 then nI 15 else if x = nI 1 then nI 999 else nI 99999) = nI 999 := by
          first | (rw [if_pos (show x = nI 0 from c_16)]; done) | (rw [if_neg (show ¬ x = nI 0 from c_16), if_pos c_27]; done) | rw [if_neg (show ¬ x = nI 0 from c_16), if_neg c_27]
        refine V.ldc2 (v := 999) d_Mo_set_30 (tm 1263 (by decide +kernel) rfl) ?_
        refine V.eqS (st' := .long ((nI 999).toInt64) :: _) rfl ?_
        refine V.goto (tgt := 39) d_Mo_set_33 (by decide) ?_
        refine V.callS3 d_Mo_set_39 k_Mo_56_Mo_inS (Nat.le_of_ble_eq_true rfl) (by omega) (by omega) (c_Mo_in ?_)
        refine V.ifneB (tgt := 51) d_Mo_set_42 (by decide) (fun c_42 => ?_) (fun c_42 => ?_)
        · skip
          rw [← hif] at c_42
          obtain ⟨a, ha, hxa⟩ := wi_nat (by decide) c_9
          have hOk' := hOk a ha hxa c_42
          subst hxa
          refine V.aload_n d_Mo_set_51 rfl ?_
          refine V.get d_Mo_set_52 f_Mo_7_Mo mo_o rfl ?_
          refine V.iconst_ (nI 2) d_Mo_set_55 (by decide +kernel) ?_
          refine V.iload_n d_Mo_set_56 rfl ?_
          refine V.addN d_Mo_set_57 ?_
          refine V.mldd d_Mo_set_58 (by omega) ?_
          refine V.istore_n d_Mo_set_59 (by decide) ?_
          refine V.aload_n d_Mo_set_60 rfl ?_
          refine V.get d_Mo_set_61 f_Mo_7_Mo mo_o rfl ?_
          refine V.iconst_ (nI 2) d_Mo_set_64 (by decide +kernel) ?_
          refine V.iload_n d_Mo_set_65 rfl ?_
          refine V.addN d_Mo_set_66 ?_
          refine V.iload_n d_Mo_set_67 rfl ?_
          refine V.mstd d_Mo_set_68 (by omega) ?_
          refine V.iload_n d_Mo_set_69 rfl ?_
          refine V.iret d_Mo_set_70 rfl (Nat.le_of_ble_eq_true rfl) (Nat.le_of_ble_eq_true rfl) ?_
          exact hOk'
        · skip
          refine V.aload_n d_Mo_set_45 rfl ?_
          refine V.iconst_ (nI 1) d_Mo_set_46 (by decide +kernel) ?_
          refine V.callV1 d_Mo_set_47 k_Mo_138_Mo_finds_MoV mo_o (Nat.le_of_ble_eq_true rfl) (by omega) (by omega) (c_Mo_finds (by omega) ?_)
          refine V.iret d_Mo_set_50 rfl (Nat.le_of_ble_eq_true rfl) (Nat.le_of_ble_eq_true rfl) ?_
          exact hE (by first | (rw [hif, c_42, Bool.and_false]; done) | (rw [c_9, Bool.false_and]))
    · skip
      have hif : (if x = nI 0 then nI 15 else if x = nI 1 then nI 999 else nI 99999) = nI 15 := by
        first | (rw [if_pos (show x = nI 0 from c_16)]; done) | (rw [if_neg (show ¬ x = nI 0 from c_16), if_pos c_27]; done) | rw [if_neg (show ¬ x = nI 0 from c_16), if_neg c_27]
      refine V.ldc2 (v := 15) d_Mo_set_19 (tm 1262 (by decide +kernel) rfl) ?_
      refine V.eqS (st' := .long ((nI 15).toInt64) :: _) rfl ?_
      refine V.goto (tgt := 39) d_Mo_set_22 (by decide) ?_
      refine V.callS3 d_Mo_set_39 k_Mo_56_Mo_inS (Nat.le_of_ble_eq_true rfl) (by omega) (by omega) (c_Mo_in ?_)
      refine V.ifneB (tgt := 51) d_Mo_set_42 (by decide) (fun c_42 => ?_) (fun c_42 => ?_)
      · skip
        rw [← hif] at c_42
        obtain ⟨a, ha, hxa⟩ := wi_nat (by decide) c_9
        have hOk' := hOk a ha hxa c_42
        subst hxa
        refine V.aload_n d_Mo_set_51 rfl ?_
        refine V.get d_Mo_set_52 f_Mo_7_Mo mo_o rfl ?_
        refine V.iconst_ (nI 2) d_Mo_set_55 (by decide +kernel) ?_
        refine V.iload_n d_Mo_set_56 rfl ?_
        refine V.addN d_Mo_set_57 ?_
        refine V.mldd d_Mo_set_58 (by omega) ?_
        refine V.istore_n d_Mo_set_59 (by decide) ?_
        refine V.aload_n d_Mo_set_60 rfl ?_
        refine V.get d_Mo_set_61 f_Mo_7_Mo mo_o rfl ?_
        refine V.iconst_ (nI 2) d_Mo_set_64 (by decide +kernel) ?_
        refine V.iload_n d_Mo_set_65 rfl ?_
        refine V.addN d_Mo_set_66 ?_
        refine V.iload_n d_Mo_set_67 rfl ?_
        refine V.mstd d_Mo_set_68 (by omega) ?_
        refine V.iload_n d_Mo_set_69 rfl ?_
        refine V.iret d_Mo_set_70 rfl (Nat.le_of_ble_eq_true rfl) (Nat.le_of_ble_eq_true rfl) ?_
        exact hOk'
      · skip
        refine V.aload_n d_Mo_set_45 rfl ?_
        refine V.iconst_ (nI 1) d_Mo_set_46 (by decide +kernel) ?_
        refine V.callV1 d_Mo_set_47 k_Mo_138_Mo_finds_MoV mo_o (Nat.le_of_ble_eq_true rfl) (by omega) (by omega) (c_Mo_finds (by omega) ?_)
        refine V.iret d_Mo_set_50 rfl (Nat.le_of_ble_eq_true rfl) (Nat.le_of_ble_eq_true rfl) ?_
        exact hE (by first | (rw [hif, c_42, Bool.and_false]; done) | (rw [c_9, Bool.false_and]))
abbrev M_Mo_tree : MD := (⟨"FelledByNamesModel", "tree", "(IIII)I"⟩, prog_14_method_48_code, 6, (some .int), fun _ => True)
theorem d_Mo_tree_0 : decode prog_14_method_48_code 0 = .ok (.iload_n 1, 1) := by decide +kernel
theorem d_Mo_tree_1 : decode prog_14_method_48_code 1 = .ok (.i2l, 1) := by decide +kernel
theorem d_Mo_tree_2 : decode prog_14_method_48_code 2 = .ok (.lconst 0, 1) := by decide +kernel
theorem d_Mo_tree_3 : decode prog_14_method_48_code 3 = .ok (.ldc2_w 205, 3) := by decide +kernel
theorem d_Mo_tree_6 : decode prog_14_method_48_code 6 = .ok (.invokestatic 56, 3) := by decide +kernel
theorem d_Mo_tree_9 : decode prog_14_method_48_code 9 = .ok (.ifCond .eq 54, 3) := by decide +kernel
theorem d_Mo_tree_63 : decode prog_14_method_48_code 63 = .ok (.aload_n 0, 1) := by decide +kernel
theorem d_Mo_tree_64 : decode prog_14_method_48_code 64 = .ok (.iconst 1, 1) := by decide +kernel
theorem d_Mo_tree_65 : decode prog_14_method_48_code 65 = .ok (.invokevirtual 138, 3) := by decide +kernel
theorem d_Mo_tree_68 : decode prog_14_method_48_code 68 = .ok (.ireturn, 1) := by decide +kernel
theorem d_Mo_tree_12 : decode prog_14_method_48_code 12 = .ok (.iload_n 2, 1) := by decide +kernel
theorem d_Mo_tree_13 : decode prog_14_method_48_code 13 = .ok (.i2l, 1) := by decide +kernel
theorem d_Mo_tree_14 : decode prog_14_method_48_code 14 = .ok (.lconst 0, 1) := by decide +kernel
theorem d_Mo_tree_15 : decode prog_14_method_48_code 15 = .ok (.ldc2_w 193, 3) := by decide +kernel
theorem d_Mo_tree_18 : decode prog_14_method_48_code 18 = .ok (.invokestatic 56, 3) := by decide +kernel
theorem d_Mo_tree_21 : decode prog_14_method_48_code 21 = .ok (.ifCond .eq 42, 3) := by decide +kernel
theorem d_Mo_tree_24 : decode prog_14_method_48_code 24 = .ok (.iload_n 2, 1) := by decide +kernel
theorem d_Mo_tree_25 : decode prog_14_method_48_code 25 = .ok (.bipush 10, 2) := by decide +kernel
theorem d_Mo_tree_27 : decode prog_14_method_48_code 27 = .ok (.idiv, 1) := by decide +kernel
theorem d_Mo_tree_28 : decode prog_14_method_48_code 28 = .ok (.iload_n 2, 1) := by decide +kernel
theorem d_Mo_tree_29 : decode prog_14_method_48_code 29 = .ok (.bipush 10, 2) := by decide +kernel
theorem d_Mo_tree_31 : decode prog_14_method_48_code 31 = .ok (.irem, 1) := by decide +kernel
theorem d_Mo_tree_32 : decode prog_14_method_48_code 32 = .ok (.invokestatic 189, 3) := by decide +kernel
theorem d_Mo_tree_35 : decode prog_14_method_48_code 35 = .ok (.ifCond .eq 28, 3) := by decide +kernel
theorem d_Mo_tree_38 : decode prog_14_method_48_code 38 = .ok (.iload_n 3, 1) := by decide +kernel
theorem d_Mo_tree_39 : decode prog_14_method_48_code 39 = .ok (.i2l, 1) := by decide +kernel
theorem d_Mo_tree_40 : decode prog_14_method_48_code 40 = .ok (.lconst 0, 1) := by decide +kernel
theorem d_Mo_tree_41 : decode prog_14_method_48_code 41 = .ok (.ldc2_w 199, 3) := by decide +kernel
theorem d_Mo_tree_44 : decode prog_14_method_48_code 44 = .ok (.invokestatic 56, 3) := by decide +kernel
theorem d_Mo_tree_47 : decode prog_14_method_48_code 47 = .ok (.ifCond .eq 16, 3) := by decide +kernel
theorem d_Mo_tree_50 : decode prog_14_method_48_code 50 = .ok (.iload 4, 2) := by decide +kernel
theorem d_Mo_tree_52 : decode prog_14_method_48_code 52 = .ok (.i2l, 1) := by decide +kernel
theorem d_Mo_tree_53 : decode prog_14_method_48_code 53 = .ok (.lconst 0, 1) := by decide +kernel
theorem d_Mo_tree_54 : decode prog_14_method_48_code 54 = .ok (.ldc2_w 193, 3) := by decide +kernel
theorem d_Mo_tree_57 : decode prog_14_method_48_code 57 = .ok (.invokestatic 56, 3) := by decide +kernel
theorem d_Mo_tree_60 : decode prog_14_method_48_code 60 = .ok (.ifCond .ne 9, 3) := by decide +kernel
theorem d_Mo_tree_69 : decode prog_14_method_48_code 69 = .ok (.aload_n 0, 1) := by decide +kernel
theorem d_Mo_tree_70 : decode prog_14_method_48_code 70 = .ok (.getfield 7, 3) := by decide +kernel
theorem d_Mo_tree_73 : decode prog_14_method_48_code 73 = .ok (.iconst 0, 1) := by decide +kernel
theorem d_Mo_tree_74 : decode prog_14_method_48_code 74 = .ok (.iaload, 1) := by decide +kernel
theorem d_Mo_tree_75 : decode prog_14_method_48_code 75 = .ok (.bipush 8, 2) := by decide +kernel
theorem d_Mo_tree_77 : decode prog_14_method_48_code 77 = .ok (.if_icmp .ne 9, 3) := by decide +kernel
theorem d_Mo_tree_86 : decode prog_14_method_48_code 86 = .ok (.aload_n 0, 1) := by decide +kernel
theorem d_Mo_tree_87 : decode prog_14_method_48_code 87 = .ok (.getfield 7, 3) := by decide +kernel
theorem d_Mo_tree_90 : decode prog_14_method_48_code 90 = .ok (.iconst 0, 1) := by decide +kernel
theorem d_Mo_tree_91 : decode prog_14_method_48_code 91 = .ok (.iaload, 1) := by decide +kernel
theorem d_Mo_tree_92 : decode prog_14_method_48_code 92 = .ok (.istore 5, 2) := by decide +kernel
theorem d_Mo_tree_94 : decode prog_14_method_48_code 94 = .ok (.aload_n 0, 1) := by decide +kernel
theorem d_Mo_tree_95 : decode prog_14_method_48_code 95 = .ok (.iload 5, 2) := by decide +kernel
theorem d_Mo_tree_97 : decode prog_14_method_48_code 97 = .ok (.iconst 0, 1) := by decide +kernel
theorem d_Mo_tree_98 : decode prog_14_method_48_code 98 = .ok (.iload_n 1, 1) := by decide +kernel
theorem d_Mo_tree_99 : decode prog_14_method_48_code 99 = .ok (.bipush 10, 2) := by decide +kernel
theorem d_Mo_tree_101 : decode prog_14_method_48_code 101 = .ok (.idiv, 1) := by decide +kernel
theorem d_Mo_tree_102 : decode prog_14_method_48_code 102 = .ok (.invokevirtual 165, 3) := by decide +kernel
theorem d_Mo_tree_105 : decode prog_14_method_48_code 105 = .ok (.aload_n 0, 1) := by decide +kernel
theorem d_Mo_tree_106 : decode prog_14_method_48_code 106 = .ok (.iload 5, 2) := by decide +kernel
theorem d_Mo_tree_108 : decode prog_14_method_48_code 108 = .ok (.iconst 1, 1) := by decide +kernel
theorem d_Mo_tree_109 : decode prog_14_method_48_code 109 = .ok (.iload_n 1, 1) := by decide +kernel
theorem d_Mo_tree_110 : decode prog_14_method_48_code 110 = .ok (.bipush 10, 2) := by decide +kernel
theorem d_Mo_tree_112 : decode prog_14_method_48_code 112 = .ok (.irem, 1) := by decide +kernel
theorem d_Mo_tree_113 : decode prog_14_method_48_code 113 = .ok (.invokevirtual 165, 3) := by decide +kernel
theorem d_Mo_tree_116 : decode prog_14_method_48_code 116 = .ok (.aload_n 0, 1) := by decide +kernel
theorem d_Mo_tree_117 : decode prog_14_method_48_code 117 = .ok (.iload 5, 2) := by decide +kernel
theorem d_Mo_tree_119 : decode prog_14_method_48_code 119 = .ok (.iconst 2, 1) := by decide +kernel
theorem d_Mo_tree_120 : decode prog_14_method_48_code 120 = .ok (.iload_n 2, 1) := by decide +kernel
theorem d_Mo_tree_121 : decode prog_14_method_48_code 121 = .ok (.bipush 10, 2) := by decide +kernel
theorem d_Mo_tree_123 : decode prog_14_method_48_code 123 = .ok (.idiv, 1) := by decide +kernel
theorem d_Mo_tree_124 : decode prog_14_method_48_code 124 = .ok (.invokevirtual 165, 3) := by decide +kernel
theorem d_Mo_tree_127 : decode prog_14_method_48_code 127 = .ok (.aload_n 0, 1) := by decide +kernel
theorem d_Mo_tree_128 : decode prog_14_method_48_code 128 = .ok (.iload 5, 2) := by decide +kernel
theorem d_Mo_tree_130 : decode prog_14_method_48_code 130 = .ok (.iconst 3, 1) := by decide +kernel
theorem d_Mo_tree_131 : decode prog_14_method_48_code 131 = .ok (.iload_n 2, 1) := by decide +kernel
theorem d_Mo_tree_132 : decode prog_14_method_48_code 132 = .ok (.bipush 10, 2) := by decide +kernel
theorem d_Mo_tree_134 : decode prog_14_method_48_code 134 = .ok (.irem, 1) := by decide +kernel
theorem d_Mo_tree_135 : decode prog_14_method_48_code 135 = .ok (.invokevirtual 165, 3) := by decide +kernel
theorem d_Mo_tree_138 : decode prog_14_method_48_code 138 = .ok (.aload_n 0, 1) := by decide +kernel
theorem d_Mo_tree_139 : decode prog_14_method_48_code 139 = .ok (.iload 5, 2) := by decide +kernel
theorem d_Mo_tree_141 : decode prog_14_method_48_code 141 = .ok (.iconst 4, 1) := by decide +kernel
theorem d_Mo_tree_142 : decode prog_14_method_48_code 142 = .ok (.iload_n 3, 1) := by decide +kernel
theorem d_Mo_tree_143 : decode prog_14_method_48_code 143 = .ok (.invokevirtual 165, 3) := by decide +kernel
theorem d_Mo_tree_146 : decode prog_14_method_48_code 146 = .ok (.aload_n 0, 1) := by decide +kernel
theorem d_Mo_tree_147 : decode prog_14_method_48_code 147 = .ok (.iload 5, 2) := by decide +kernel
theorem d_Mo_tree_149 : decode prog_14_method_48_code 149 = .ok (.iconst 5, 1) := by decide +kernel
theorem d_Mo_tree_150 : decode prog_14_method_48_code 150 = .ok (.iload 4, 2) := by decide +kernel
theorem d_Mo_tree_152 : decode prog_14_method_48_code 152 = .ok (.invokevirtual 165, 3) := by decide +kernel
theorem d_Mo_tree_155 : decode prog_14_method_48_code 155 = .ok (.aload_n 0, 1) := by decide +kernel
theorem d_Mo_tree_156 : decode prog_14_method_48_code 156 = .ok (.iload 5, 2) := by decide +kernel
theorem d_Mo_tree_158 : decode prog_14_method_48_code 158 = .ok (.bipush 6, 2) := by decide +kernel
theorem d_Mo_tree_160 : decode prog_14_method_48_code 160 = .ok (.iconst 1, 1) := by decide +kernel
theorem d_Mo_tree_161 : decode prog_14_method_48_code 161 = .ok (.invokevirtual 165, 3) := by decide +kernel
theorem d_Mo_tree_164 : decode prog_14_method_48_code 164 = .ok (.aload_n 0, 1) := by decide +kernel
theorem d_Mo_tree_165 : decode prog_14_method_48_code 165 = .ok (.getfield 7, 3) := by decide +kernel
theorem d_Mo_tree_168 : decode prog_14_method_48_code 168 = .ok (.iconst 0, 1) := by decide +kernel
theorem d_Mo_tree_169 : decode prog_14_method_48_code 169 = .ok (.dup2, 1) := by decide +kernel
theorem d_Mo_tree_170 : decode prog_14_method_48_code 170 = .ok (.iaload, 1) := by decide +kernel
theorem d_Mo_tree_171 : decode prog_14_method_48_code 171 = .ok (.iconst 1, 1) := by decide +kernel
theorem d_Mo_tree_172 : decode prog_14_method_48_code 172 = .ok (.iadd, 1) := by decide +kernel
theorem d_Mo_tree_173 : decode prog_14_method_48_code 173 = .ok (.iastore, 1) := by decide +kernel
theorem d_Mo_tree_174 : decode prog_14_method_48_code 174 = .ok (.iload 5, 2) := by decide +kernel
theorem d_Mo_tree_176 : decode prog_14_method_48_code 176 = .ok (.ireturn, 1) := by decide +kernel
theorem d_Mo_tree_80 : decode prog_14_method_48_code 80 = .ok (.aload_n 0, 1) := by decide +kernel
theorem d_Mo_tree_81 : decode prog_14_method_48_code 81 = .ok (.iconst 4, 1) := by decide +kernel
theorem d_Mo_tree_82 : decode prog_14_method_48_code 82 = .ok (.invokevirtual 138, 3) := by decide +kernel
theorem d_Mo_tree_85 : decode prog_14_method_48_code 85 = .ok (.ireturn, 1) := by decide +kernel
set_option maxRecDepth 100000 in
theorem c_Mo_tree {N : Nat} {x y v u : Int32} {l : Launch} {d q n : Nat} {D : Nat → Int32} {A : Nat → Nat → Int32} {S : Nat → Int32} {h0 : HP} {Q : QT} (hN : N ≤ 8) (e0 : D 0 = nI N) (hE : (wi x (nI 0) (nI 69) && wi y (nI 0) (nI 99) && two (y / nI 10) (irm y (nI 10)) && wi v (nI 0) (nI 15) && wi u (nI 0) (nI 99)) = false → Q (some (.int (-1000000000 - nI 1))) n (mo q D (uA A 3 (upd (A 3) 1 (A 3 1 + nI 1))) S h0)) (hF : wi x (nI 0) (nI 69) = true → wi y (nI 0) (nI 99) = true → two (y / nI 10) (irm y (nI 10)) = true → wi v (nI 0) (nI 15) = true → wi u (nI 0) (nI 99) = true → N = 8 → Q (some (.int (-1000000000 - nI 4))) n (mo q D (uA A 3 (upd (A 3) 4 (A 3 4 + nI 1))) S h0)) (hOk : ∀ a b, a ≤ 69 → b ≤ 99 → x = nI a → y = nI b → two (nI (b / 10)) (nI (b % 10)) = true → wi v (nI 0) (nI 15) = true → wi u (nI 0) (nI 99) = true → N < 8 → Q (some (.int (nI N))) n (mo q (upd (upd (upd (upd (upd (upd (upd (upd D (50 + 7 * N + 0) (nI (a / 10))) (50 + 7 * N + 1) (nI (a % 10))) (50 + 7 * N + 2) (nI (b / 10))) (50 + 7 * N + 3) (nI (b % 10))) (50 + 7 * N + 4) v) (50 + 7 * N + 5) u) (50 + 7 * N + 6) (nI 1)) 0 (nI (N + 1))) A S h0)) : Ct l M_Mo_tree (d + 3) 0 0 [.ref q, .int x, .int y, .int v, .int u] n (mo q D A S h0) Q := by
  refine Ct.of (fun _ => trivial) (by decide) (Nat.le_of_ble_eq_true rfl) ?_
  refine V.iload_n d_Mo_tree_0 rfl ?_
  refine V.i2l d_Mo_tree_1 ?_
  refine V.lconst_ ((nI 0).toInt64) d_Mo_tree_2 (by decide +kernel) ?_
  refine V.ldc2 (v := 69) d_Mo_tree_3 (tm 1269 (by decide +kernel) rfl) ?_
  refine V.eqS (st' := .long ((nI 69).toInt64) :: _) rfl ?_
  refine V.callS3 d_Mo_tree_6 k_Mo_56_Mo_inS (Nat.le_of_ble_eq_true rfl) (by omega) (by omega) (c_Mo_in ?_)
  refine V.ifeqB (tgt := 63) d_Mo_tree_9 (by decide) (fun c_9 => ?_) (fun c_9 => ?_)
  · skip
    refine V.aload_n d_Mo_tree_63 rfl ?_
    refine V.iconst_ (nI 1) d_Mo_tree_64 (by decide +kernel) ?_
    refine V.callV1 d_Mo_tree_65 k_Mo_138_Mo_finds_MoV mo_o (Nat.le_of_ble_eq_true rfl) (by omega) (by omega) (c_Mo_finds (by omega) ?_)
    refine V.iret d_Mo_tree_68 rfl (Nat.le_of_ble_eq_true rfl) (Nat.le_of_ble_eq_true rfl) ?_
    exact hE (by simp only [irm, c_9, Bool.and_false, Bool.false_and, Bool.and_true, Bool.true_and])
  · skip
    refine V.iload_n d_Mo_tree_12 rfl ?_
    refine V.i2l d_Mo_tree_13 ?_
    refine V.lconst_ ((nI 0).toInt64) d_Mo_tree_14 (by decide +kernel) ?_
    refine V.ldc2 (v := 99) d_Mo_tree_15 (tm 1239 (by decide +kernel) rfl) ?_
    refine V.eqS (st' := .long ((nI 99).toInt64) :: _) rfl ?_
    refine V.callS3 d_Mo_tree_18 k_Mo_56_Mo_inS (Nat.le_of_ble_eq_true rfl) (by omega) (by omega) (c_Mo_in ?_)
    refine V.ifeqB (tgt := 63) d_Mo_tree_21 (by decide) (fun c_21 => ?_) (fun c_21 => ?_)
    · skip
      refine V.aload_n d_Mo_tree_63 rfl ?_
      refine V.iconst_ (nI 1) d_Mo_tree_64 (by decide +kernel) ?_
      refine V.callV1 d_Mo_tree_65 k_Mo_138_Mo_finds_MoV mo_o (Nat.le_of_ble_eq_true rfl) (by omega) (by omega) (c_Mo_finds (by omega) ?_)
      refine V.iret d_Mo_tree_68 rfl (Nat.le_of_ble_eq_true rfl) (Nat.le_of_ble_eq_true rfl) ?_
      exact hE (by simp only [irm, c_9, c_21, Bool.and_false, Bool.false_and, Bool.and_true, Bool.true_and])
    · skip
      refine V.iload_n d_Mo_tree_24 rfl ?_
      refine V.bipush_ (nI 10) d_Mo_tree_25 (by decide +kernel) ?_
      refine V.idiv d_Mo_tree_27 (by decide +kernel) ?_
      refine V.iload_n d_Mo_tree_28 rfl ?_
      refine V.bipush_ (nI 10) d_Mo_tree_29 (by decide +kernel) ?_
      refine V.irem d_Mo_tree_31 (by decide +kernel) ?_
      refine V.callS2 d_Mo_tree_32 k_Mo_189_Mo_areTwoS (Nat.le_of_ble_eq_true rfl) (by omega) (by omega) (c_Mo_areTwo ?_)
      refine V.ifeqB (tgt := 63) d_Mo_tree_35 (by decide) (fun c_35 => ?_) (fun c_35 => ?_)
      · skip
        refine V.aload_n d_Mo_tree_63 rfl ?_
        refine V.iconst_ (nI 1) d_Mo_tree_64 (by decide +kernel) ?_
        refine V.callV1 d_Mo_tree_65 k_Mo_138_Mo_finds_MoV mo_o (Nat.le_of_ble_eq_true rfl) (by omega) (by omega) (c_Mo_finds (by omega) ?_)
        refine V.iret d_Mo_tree_68 rfl (Nat.le_of_ble_eq_true rfl) (Nat.le_of_ble_eq_true rfl) ?_
        exact hE (by simp only [irm, c_9, c_21, c_35, Bool.and_false, Bool.false_and, Bool.and_true, Bool.true_and])
      · skip
        refine V.iload_n d_Mo_tree_38 rfl ?_
        refine V.i2l d_Mo_tree_39 ?_
        refine V.lconst_ ((nI 0).toInt64) d_Mo_tree_40 (by decide +kernel) ?_
        refine V.ldc2 (v := 15) d_Mo_tree_41 (tm 1262 (by decide +kernel) rfl) ?_
        refine V.eqS (st' := .long ((nI 15).toInt64) :: _) rfl ?_
        refine V.callS3 d_Mo_tree_44 k_Mo_56_Mo_inS (Nat.le_of_ble_eq_true rfl) (by omega) (by omega) (c_Mo_in ?_)
        refine V.ifeqB (tgt := 63) d_Mo_tree_47 (by decide) (fun c_47 => ?_) (fun c_47 => ?_)
        · skip
          refine V.aload_n d_Mo_tree_63 rfl ?_
          refine V.iconst_ (nI 1) d_Mo_tree_64 (by decide +kernel) ?_
          refine V.callV1 d_Mo_tree_65 k_Mo_138_Mo_finds_MoV mo_o (Nat.le_of_ble_eq_true rfl) (by omega) (by omega) (c_Mo_finds (by omega) ?_)
          refine V.iret d_Mo_tree_68 rfl (Nat.le_of_ble_eq_true rfl) (Nat.le_of_ble_eq_true rfl) ?_
          exact hE (by simp only [irm, c_9, c_21, c_35, c_47, Bool.and_false, Bool.false_and, Bool.and_true, Bool.true_and])
        · skip
          refine V.iload d_Mo_tree_50 rfl ?_
          refine V.i2l d_Mo_tree_52 ?_
          refine V.lconst_ ((nI 0).toInt64) d_Mo_tree_53 (by decide +kernel) ?_
          refine V.ldc2 (v := 99) d_Mo_tree_54 (tm 1239 (by decide +kernel) rfl) ?_
          refine V.eqS (st' := .long ((nI 99).toInt64) :: _) rfl ?_
          refine V.callS3 d_Mo_tree_57 k_Mo_56_Mo_inS (Nat.le_of_ble_eq_true rfl) (by omega) (by omega) (c_Mo_in ?_)
          refine V.ifneB (tgt := 69) d_Mo_tree_60 (by decide) (fun c_60 => ?_) (fun c_60 => ?_)
          · skip
            refine V.aload_n d_Mo_tree_69 rfl ?_
            refine V.get d_Mo_tree_70 f_Mo_7_Mo mo_o rfl ?_
            refine V.iconst_ (nI 0) d_Mo_tree_73 (by decide +kernel) ?_
            refine V.mldd d_Mo_tree_74 (by omega) ?_
            refine V.top e0 ?_
            refine V.bipush_ (nI 8) d_Mo_tree_75 (by decide +kernel) ?_
            refine V.neN (tgt := 86) d_Mo_tree_77 (by decide) (by omega) (by omega) (fun c_77 => ?_) (fun c_77 => ?_)
            · skip
              refine V.aload_n d_Mo_tree_86 rfl ?_
              refine V.get d_Mo_tree_87 f_Mo_7_Mo mo_o rfl ?_
              refine V.iconst_ (nI 0) d_Mo_tree_90 (by decide +kernel) ?_
              refine V.mldd d_Mo_tree_91 (by omega) ?_
              refine V.top e0 ?_
              refine V.istore d_Mo_tree_92 (by decide) ?_
              have hN8 : N < 8 := by omega
              obtain ⟨a, ha, rfl⟩ := wi_nat (by decide) c_9
              obtain ⟨b, hb, rfl⟩ := wi_nat (by decide) c_21
              rw [pk_rem (by omega) (by omega) (by omega), pk_div (by omega) (by omega) (by omega)] at c_35
              refine V.aload_n d_Mo_tree_94 rfl ?_
              refine V.iload d_Mo_tree_95 rfl ?_
              refine V.iconst_ (nI 0) d_Mo_tree_97 (by decide +kernel) ?_
              refine V.iload_n d_Mo_tree_98 rfl ?_
              refine V.bipush_ (nI 10) d_Mo_tree_99 (by decide +kernel) ?_
              refine V.divN d_Mo_tree_101 (by omega) (by omega) (by omega) ?_
              refine V.callV3 d_Mo_tree_102 k_Mo_165_Mo_sets_MoV mo_o (Nat.le_of_ble_eq_true rfl) (by omega) (by omega) (c_Mo_sets (by omega) ?_)
              refine V.aload_n d_Mo_tree_105 rfl ?_
              refine V.iload d_Mo_tree_106 rfl ?_
              refine V.iconst_ (nI 1) d_Mo_tree_108 (by decide +kernel) ?_
              refine V.iload_n d_Mo_tree_109 rfl ?_
              refine V.bipush_ (nI 10) d_Mo_tree_110 (by decide +kernel) ?_
              refine V.remN d_Mo_tree_112 (by omega) (by omega) (by omega) ?_
              refine V.callV3 d_Mo_tree_113 k_Mo_165_Mo_sets_MoV mo_o (Nat.le_of_ble_eq_true rfl) (by omega) (by omega) (c_Mo_sets (by omega) ?_)
              refine V.aload_n d_Mo_tree_116 rfl ?_
              refine V.iload d_Mo_tree_117 rfl ?_
              refine V.iconst_ (nI 2) d_Mo_tree_119 (by decide +kernel) ?_
              refine V.iload_n d_Mo_tree_120 rfl ?_
              refine V.bipush_ (nI 10) d_Mo_tree_121 (by decide +kernel) ?_
              refine V.divN d_Mo_tree_123 (by omega) (by omega) (by omega) ?_
              refine V.callV3 d_Mo_tree_124 k_Mo_165_Mo_sets_MoV mo_o (Nat.le_of_ble_eq_true rfl) (by omega) (by omega) (c_Mo_sets (by omega) ?_)
              refine V.aload_n d_Mo_tree_127 rfl ?_
              refine V.iload d_Mo_tree_128 rfl ?_
              refine V.iconst_ (nI 3) d_Mo_tree_130 (by decide +kernel) ?_
              refine V.iload_n d_Mo_tree_131 rfl ?_
              refine V.bipush_ (nI 10) d_Mo_tree_132 (by decide +kernel) ?_
              refine V.remN d_Mo_tree_134 (by omega) (by omega) (by omega) ?_
              refine V.callV3 d_Mo_tree_135 k_Mo_165_Mo_sets_MoV mo_o (Nat.le_of_ble_eq_true rfl) (by omega) (by omega) (c_Mo_sets (by omega) ?_)
              refine V.aload_n d_Mo_tree_138 rfl ?_
              refine V.iload d_Mo_tree_139 rfl ?_
              refine V.iconst_ (nI 4) d_Mo_tree_141 (by decide +kernel) ?_
              refine V.iload_n d_Mo_tree_142 rfl ?_
              refine V.callV3 d_Mo_tree_143 k_Mo_165_Mo_sets_MoV mo_o (Nat.le_of_ble_eq_true rfl) (by omega) (by omega) (c_Mo_sets (by omega) ?_)
              refine V.aload_n d_Mo_tree_146 rfl ?_
              refine V.iload d_Mo_tree_147 rfl ?_
              refine V.iconst_ (nI 5) d_Mo_tree_149 (by decide +kernel) ?_
              refine V.iload d_Mo_tree_150 rfl ?_
              refine V.callV3 d_Mo_tree_152 k_Mo_165_Mo_sets_MoV mo_o (Nat.le_of_ble_eq_true rfl) (by omega) (by omega) (c_Mo_sets (by omega) ?_)
              refine V.aload_n d_Mo_tree_155 rfl ?_
              refine V.iload d_Mo_tree_156 rfl ?_
              refine V.bipush_ (nI 6) d_Mo_tree_158 (by decide +kernel) ?_
              refine V.iconst_ (nI 1) d_Mo_tree_160 (by decide +kernel) ?_
              refine V.callV3 d_Mo_tree_161 k_Mo_165_Mo_sets_MoV mo_o (Nat.le_of_ble_eq_true rfl) (by omega) (by omega) (c_Mo_sets (by omega) ?_)
              refine V.aload_n d_Mo_tree_164 rfl ?_
              refine V.get d_Mo_tree_165 f_Mo_7_Mo mo_o rfl ?_
              refine V.iconst_ (nI 0) d_Mo_tree_168 (by decide +kernel) ?_
              refine V.dup2 rfl rfl d_Mo_tree_169 ?_
              refine V.mldd d_Mo_tree_170 (by omega) ?_
              refine V.top (show _ = nI N by simp only [pk_un (show (0 : Nat) ≠ 50 + 7 * N + 6 by omega), pk_un (show (0 : Nat) ≠ 50 + 7 * N + 5 by omega), pk_un (show (0 : Nat) ≠ 50 + 7 * N + 4 by omega), pk_un (show (0 : Nat) ≠ 50 + 7 * N + 3 by omega), pk_un (show (0 : Nat) ≠ 50 + 7 * N + 2 by omega), pk_un (show (0 : Nat) ≠ 50 + 7 * N + 1 by omega), pk_un (show (0 : Nat) ≠ 50 + 7 * N + 0 by omega)]; exact e0) ?_
              refine V.iconst_ (nI 1) d_Mo_tree_171 (by decide +kernel) ?_
              refine V.addN d_Mo_tree_172 ?_
              refine V.mstd d_Mo_tree_173 (by omega) ?_
              refine V.iload d_Mo_tree_174 rfl ?_
              refine V.iret d_Mo_tree_176 rfl (Nat.le_of_ble_eq_true rfl) (Nat.le_of_ble_eq_true rfl) ?_
              exact hOk a b ha hb rfl rfl c_35 c_47 c_60 hN8
            · skip
              refine V.aload_n d_Mo_tree_80 rfl ?_
              refine V.iconst_ (nI 4) d_Mo_tree_81 (by decide +kernel) ?_
              refine V.callV1 d_Mo_tree_82 k_Mo_138_Mo_finds_MoV mo_o (Nat.le_of_ble_eq_true rfl) (by omega) (by omega) (c_Mo_finds (by omega) ?_)
              refine V.iret d_Mo_tree_85 rfl (Nat.le_of_ble_eq_true rfl) (Nat.le_of_ble_eq_true rfl) ?_
              exact hF c_9 c_21 c_35 c_47 c_60 c_77
          · skip
            refine V.aload_n d_Mo_tree_63 rfl ?_
            refine V.iconst_ (nI 1) d_Mo_tree_64 (by decide +kernel) ?_
            refine V.callV1 d_Mo_tree_65 k_Mo_138_Mo_finds_MoV mo_o (Nat.le_of_ble_eq_true rfl) (by omega) (by omega) (c_Mo_finds (by omega) ?_)
            refine V.iret d_Mo_tree_68 rfl (Nat.le_of_ble_eq_true rfl) (Nat.le_of_ble_eq_true rfl) ?_
            exact hE (by simp only [irm, c_9, c_21, c_35, c_47, c_60, Bool.and_false, Bool.false_and, Bool.and_true, Bool.true_and])
