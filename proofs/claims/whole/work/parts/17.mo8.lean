theorem idx_nat {x : Int32} {N : Nat} (hN : N < 2 ^ 30) (h : wi x (nI 0) (nI N - nI 1) = true) : ∃ i, i < N ∧ x = nI i := by
  by_cases h0 : N = 0
  · subst h0
    obtain ⟨h1, h2⟩ := wi_t h
    have h3 : nI 0 ≤ nI 0 - nI 1 := Int32.le_trans h1 h2
    exact absurd h3 (by decide +kernel)
  · rw [pk_sub (by omega)] at h
    obtain ⟨i, hi, ei⟩ := wi_nat (by omega) h
    exact ⟨i, by omega, ei⟩
theorem wi_nat1 {x : Int32} {k : Nat} (hk : k < 2 ^ 31) (h : wi x (nI 1) (nI k) = true) : ∃ i, 1 ≤ i ∧ i ≤ k ∧ x = nI i := by
  obtain ⟨h1, h2⟩ := wi_t h
  have h0 : (nI 0) ≤ x := Int32.le_trans (by decide +kernel) h1
  obtain ⟨i, hi, rfl⟩ := nI_of2 (nI_toInt hk) (Int32.not_lt.mpr h0) h2
  exact ⟨i, (nI_leI (by decide) (by omega)).mp h1, hi, rfl⟩
theorem wi_out {x : Int32} {k : Nat} (hk : k < 2 ^ 31) (h : wi x (nI 0) (nI k) = false) : x.toInt < 0 ∨ (k : Int) < x.toInt := by
  simp only [wi, Bool.and_eq_false_iff, decide_eq_false_iff_not] at h
  rcases h with h | h
  · left
    rw [Int32.le_iff_toInt_le, nI_toInt (by decide)] at h
    have : ((0 : Nat) : Int) = 0 := rfl
    omega
  · right
    rw [Int32.le_iff_toInt_le, nI_toInt hk] at h
    omega
def oft (D : Nat → Int32) (i w : Nat) : Int32 := if w = 0 then D (50 + 7 * i + 0) else if w = 1 then D (50 + 7 * i + 1) else if w = 2 then nI 10 * D (50 + 7 * i + 2) + D (50 + 7 * i + 3) else if w = 6 then lim D i else if w = 7 then rch D i else D (50 + 7 * i + (w + 1))
def chm (y : Int32) : Int32 := if y = nI 0 then nI 15 else if y = nI 1 then nI 99 else nI 1
abbrev M_Mo_ofTree : MD := (⟨"FelledByNamesModel", "ofTree", "(II)I"⟩, prog_14_method_49_code, 3, (some .int), fun _ => True)
theorem d_Mo_ofTree_0 : decode prog_14_method_49_code 0 = .ok (.aload_n 0, 1) := by decide +kernel
theorem d_Mo_ofTree_1 : decode prog_14_method_49_code 1 = .ok (.iload_n 1, 1) := by decide +kernel
theorem d_Mo_ofTree_2 : decode prog_14_method_49_code 2 = .ok (.invokevirtual 207, 3) := by decide +kernel
theorem kB_Mo_isTree : kB M_Mo_isTree 1 := ⟨tm 15 (by decide +kernel) rfl, tm 1281 (by decide +kernel) rfl, ⟨by decide, by decide, by decide +kernel⟩, by decide⟩
theorem k_Mo_207_Mo_isTree_MoV : kV "FelledByNamesModel" 207 5 M_Mo_isTree 1 := ⟨kB_Mo_isTree, tm 1278 (by decide +kernel) rfl, tm 1280 (by decide +kernel) rfl, tp 31 (by decide +kernel) rfl, _, rfl, rfl⟩
theorem d_Mo_ofTree_5 : decode prog_14_method_49_code 5 = .ok (.ifCond .eq 15, 3) := by decide +kernel
theorem d_Mo_ofTree_20 : decode prog_14_method_49_code 20 = .ok (.aload_n 0, 1) := by decide +kernel
theorem d_Mo_ofTree_21 : decode prog_14_method_49_code 21 = .ok (.iconst 1, 1) := by decide +kernel
theorem d_Mo_ofTree_22 : decode prog_14_method_49_code 22 = .ok (.invokevirtual 138, 3) := by decide +kernel
theorem d_Mo_ofTree_25 : decode prog_14_method_49_code 25 = .ok (.ireturn, 1) := by decide +kernel
theorem d_Mo_ofTree_8 : decode prog_14_method_49_code 8 = .ok (.iload_n 2, 1) := by decide +kernel
theorem d_Mo_ofTree_9 : decode prog_14_method_49_code 9 = .ok (.i2l, 1) := by decide +kernel
theorem d_Mo_ofTree_10 : decode prog_14_method_49_code 10 = .ok (.lconst 0, 1) := by decide +kernel
theorem d_Mo_ofTree_11 : decode prog_14_method_49_code 11 = .ok (.ldc2_w 210, 3) := by decide +kernel
theorem d_Mo_ofTree_14 : decode prog_14_method_49_code 14 = .ok (.invokestatic 56, 3) := by decide +kernel
theorem d_Mo_ofTree_17 : decode prog_14_method_49_code 17 = .ok (.ifCond .ne 9, 3) := by decide +kernel
theorem d_Mo_ofTree_26 : decode prog_14_method_49_code 26 = .ok (.iload_n 2, 1) := by decide +kernel
theorem d_Mo_ofTree_27 : decode prog_14_method_49_code 27 = .ok (.tableswitch 81 0 7 #[45, 45, 52, 81, 81, 81, 69, 75], 45) := by decide +kernel
theorem d_Mo_ofTree_72 : decode prog_14_method_49_code 72 = .ok (.aload_n 0, 1) := by decide +kernel
theorem d_Mo_ofTree_73 : decode prog_14_method_49_code 73 = .ok (.iload_n 1, 1) := by decide +kernel
theorem d_Mo_ofTree_74 : decode prog_14_method_49_code 74 = .ok (.iload_n 2, 1) := by decide +kernel
theorem d_Mo_ofTree_75 : decode prog_14_method_49_code 75 = .ok (.invokevirtual 158, 3) := by decide +kernel
theorem d_Mo_ofTree_78 : decode prog_14_method_49_code 78 = .ok (.ireturn, 1) := by decide +kernel
theorem d_Mo_ofTree_79 : decode prog_14_method_49_code 79 = .ok (.bipush 10, 2) := by decide +kernel
theorem d_Mo_ofTree_81 : decode prog_14_method_49_code 81 = .ok (.aload_n 0, 1) := by decide +kernel
theorem d_Mo_ofTree_82 : decode prog_14_method_49_code 82 = .ok (.iload_n 1, 1) := by decide +kernel
theorem d_Mo_ofTree_83 : decode prog_14_method_49_code 83 = .ok (.iconst 2, 1) := by decide +kernel
theorem d_Mo_ofTree_84 : decode prog_14_method_49_code 84 = .ok (.invokevirtual 158, 3) := by decide +kernel
theorem d_Mo_ofTree_87 : decode prog_14_method_49_code 87 = .ok (.imul, 1) := by decide +kernel
theorem d_Mo_ofTree_88 : decode prog_14_method_49_code 88 = .ok (.aload_n 0, 1) := by decide +kernel
theorem d_Mo_ofTree_89 : decode prog_14_method_49_code 89 = .ok (.iload_n 1, 1) := by decide +kernel
theorem d_Mo_ofTree_90 : decode prog_14_method_49_code 90 = .ok (.iconst 3, 1) := by decide +kernel
theorem d_Mo_ofTree_91 : decode prog_14_method_49_code 91 = .ok (.invokevirtual 158, 3) := by decide +kernel
theorem d_Mo_ofTree_94 : decode prog_14_method_49_code 94 = .ok (.iadd, 1) := by decide +kernel
theorem d_Mo_ofTree_95 : decode prog_14_method_49_code 95 = .ok (.ireturn, 1) := by decide +kernel
theorem d_Mo_ofTree_108 : decode prog_14_method_49_code 108 = .ok (.aload_n 0, 1) := by decide +kernel
theorem d_Mo_ofTree_109 : decode prog_14_method_49_code 109 = .ok (.iload_n 1, 1) := by decide +kernel
theorem d_Mo_ofTree_110 : decode prog_14_method_49_code 110 = .ok (.iload_n 2, 1) := by decide +kernel
theorem d_Mo_ofTree_111 : decode prog_14_method_49_code 111 = .ok (.iconst 1, 1) := by decide +kernel
theorem d_Mo_ofTree_112 : decode prog_14_method_49_code 112 = .ok (.iadd, 1) := by decide +kernel
theorem d_Mo_ofTree_113 : decode prog_14_method_49_code 113 = .ok (.invokevirtual 158, 3) := by decide +kernel
theorem d_Mo_ofTree_116 : decode prog_14_method_49_code 116 = .ok (.ireturn, 1) := by decide +kernel
theorem d_Mo_ofTree_96 : decode prog_14_method_49_code 96 = .ok (.aload_n 0, 1) := by decide +kernel
theorem d_Mo_ofTree_97 : decode prog_14_method_49_code 97 = .ok (.iload_n 1, 1) := by decide +kernel
theorem d_Mo_ofTree_98 : decode prog_14_method_49_code 98 = .ok (.invokevirtual 177, 3) := by decide +kernel
theorem d_Mo_ofTree_101 : decode prog_14_method_49_code 101 = .ok (.ireturn, 1) := by decide +kernel
theorem d_Mo_ofTree_102 : decode prog_14_method_49_code 102 = .ok (.aload_n 0, 1) := by decide +kernel
theorem d_Mo_ofTree_103 : decode prog_14_method_49_code 103 = .ok (.iload_n 1, 1) := by decide +kernel
theorem d_Mo_ofTree_104 : decode prog_14_method_49_code 104 = .ok (.invokevirtual 162, 3) := by decide +kernel
theorem d_Mo_ofTree_107 : decode prog_14_method_49_code 107 = .ok (.ireturn, 1) := by decide +kernel
set_option maxRecDepth 100000 in
theorem c_Mo_ofTree {N : Nat} {x y : Int32} {l : Launch} {d q n : Nat} {D : Nat → Int32} {A : Nat → Nat → Int32} {S : Nat → Int32} {h0 : HP} {Q : QT} (hN : N ≤ 8) (e0 : D 0 = nI N) (hT : TS D N) (hE : (wi x (nI 0) (nI N - nI 1) && wi y (nI 0) (nI 7)) = false → Q (some (.int (-1000000000 - nI 1))) n (mo q D (uA A 3 (upd (A 3) 1 (A 3 1 + nI 1))) S h0)) (hOk : ∀ i w, i < N → w ≤ 7 → x = nI i → y = nI w → Q (some (.int (oft D i w))) n (mo q D A S h0)) : Ct l M_Mo_ofTree (d + 2) 0 0 [.ref q, .int x, .int y] n (mo q D A S h0) Q := by
  refine Ct.of (fun _ => trivial) (by decide) (Nat.le_of_ble_eq_true rfl) ?_
  refine V.aload_n d_Mo_ofTree_0 rfl ?_
  refine V.iload_n d_Mo_ofTree_1 rfl ?_
  refine V.callV1 d_Mo_ofTree_2 k_Mo_207_Mo_isTree_MoV mo_o (Nat.le_of_ble_eq_true rfl) (by omega) (by omega) (c_Mo_isTree ?_)
  rw [e0]
  refine V.ifeqB (tgt := 20) d_Mo_ofTree_5 (by decide) (fun c_5 => ?_) (fun c_5 => ?_)
  · skip
    refine V.aload_n d_Mo_ofTree_20 rfl ?_
    refine V.iconst_ (nI 1) d_Mo_ofTree_21 (by decide +kernel) ?_
    refine V.callV1 d_Mo_ofTree_22 k_Mo_138_Mo_finds_MoV mo_o (Nat.le_of_ble_eq_true rfl) (by omega) (by omega) (c_Mo_finds (by omega) ?_)
    refine V.iret d_Mo_ofTree_25 rfl (Nat.le_of_ble_eq_true rfl) (Nat.le_of_ble_eq_true rfl) ?_
    exact hE (by simp only [c_5, Bool.and_false, Bool.false_and, Bool.and_true, Bool.true_and])
  · skip
    refine V.iload_n d_Mo_ofTree_8 rfl ?_
    refine V.i2l d_Mo_ofTree_9 ?_
    refine V.lconst_ ((nI 0).toInt64) d_Mo_ofTree_10 (by decide +kernel) ?_
    refine V.ldc2 (v := 7) d_Mo_ofTree_11 (tm 1282 (by decide +kernel) rfl) ?_
    refine V.eqS (st' := .long ((nI 7).toInt64) :: _) rfl ?_
    refine V.callS3 d_Mo_ofTree_14 k_Mo_56_Mo_inS (Nat.le_of_ble_eq_true rfl) (by omega) (by omega) (c_Mo_in ?_)
    refine V.ifneB (tgt := 26) d_Mo_ofTree_17 (by decide) (fun c_17 => ?_) (fun c_17 => ?_)
    · skip
      obtain ⟨i, hi, rfl⟩ := tre_nat hN c_5
      obtain ⟨w, hw, rfl⟩ := wi_nat (by decide) c_17
      refine V.iload_n d_Mo_ofTree_26 rfl ?_
      rcases (show w = 0 ∨ w = 1 ∨ w = 2 ∨ w = 3 ∨ w = 4 ∨ w = 5 ∨ w = 6 ∨ w = 7 by omega) with rfl | rfl | rfl | rfl | rfl | rfl | rfl | rfl
      · skip
        refine V.tabIn (tgt := 72) (off := 45) d_Mo_ofTree_27 (by decide +kernel) (by decide +kernel) (by decide +kernel) (by decide) ?_
        refine V.aload_n d_Mo_ofTree_72 rfl ?_
        refine V.iload_n d_Mo_ofTree_73 rfl ?_
        refine V.iload_n d_Mo_ofTree_74 rfl ?_
        refine V.callV2 d_Mo_ofTree_75 k_Mo_158_Mo_of_MoV mo_o (Nat.le_of_ble_eq_true rfl) (by omega) (by omega) (c_Mo_of (by omega) ?_)
        refine V.iret d_Mo_ofTree_78 rfl (Nat.le_of_ble_eq_true rfl) (Nat.le_of_ble_eq_true rfl) ?_
        exact hOk i 0 hi (by omega) rfl rfl
      · skip
        refine V.tabIn (tgt := 72) (off := 45) d_Mo_ofTree_27 (by decide +kernel) (by decide +kernel) (by decide +kernel) (by decide) ?_
        refine V.aload_n d_Mo_ofTree_72 rfl ?_
        refine V.iload_n d_Mo_ofTree_73 rfl ?_
        refine V.iload_n d_Mo_ofTree_74 rfl ?_
        refine V.callV2 d_Mo_ofTree_75 k_Mo_158_Mo_of_MoV mo_o (Nat.le_of_ble_eq_true rfl) (by omega) (by omega) (c_Mo_of (by omega) ?_)
        refine V.iret d_Mo_ofTree_78 rfl (Nat.le_of_ble_eq_true rfl) (Nat.le_of_ble_eq_true rfl) ?_
        exact hOk i 1 hi (by omega) rfl rfl
      · skip
        refine V.tabIn (tgt := 79) (off := 52) d_Mo_ofTree_27 (by decide +kernel) (by decide +kernel) (by decide +kernel) (by decide) ?_
        refine V.bipush_ (nI 10) d_Mo_ofTree_79 (by decide +kernel) ?_
        refine V.aload_n d_Mo_ofTree_81 rfl ?_
        refine V.iload_n d_Mo_ofTree_82 rfl ?_
        refine V.iconst_ (nI 2) d_Mo_ofTree_83 (by decide +kernel) ?_
        refine V.callV2 d_Mo_ofTree_84 k_Mo_158_Mo_of_MoV mo_o (Nat.le_of_ble_eq_true rfl) (by omega) (by omega) (c_Mo_of (by omega) ?_)
        refine V.imul d_Mo_ofTree_87 ?_
        refine V.aload_n d_Mo_ofTree_88 rfl ?_
        refine V.iload_n d_Mo_ofTree_89 rfl ?_
        refine V.iconst_ (nI 3) d_Mo_ofTree_90 (by decide +kernel) ?_
        refine V.callV2 d_Mo_ofTree_91 k_Mo_158_Mo_of_MoV mo_o (Nat.le_of_ble_eq_true rfl) (by omega) (by omega) (c_Mo_of (by omega) ?_)
        refine V.iadd d_Mo_ofTree_94 ?_
        refine V.iret d_Mo_ofTree_95 rfl (Nat.le_of_ble_eq_true rfl) (Nat.le_of_ble_eq_true rfl) ?_
        exact hOk i 2 hi (by omega) rfl rfl
      · skip
        refine V.tabIn (tgt := 108) (off := 81) d_Mo_ofTree_27 (by decide +kernel) (by decide +kernel) (by decide +kernel) (by decide) ?_
        refine V.aload_n d_Mo_ofTree_108 rfl ?_
        refine V.iload_n d_Mo_ofTree_109 rfl ?_
        refine V.iload_n d_Mo_ofTree_110 rfl ?_
        refine V.iconst_ (nI 1) d_Mo_ofTree_111 (by decide +kernel) ?_
        refine V.addN d_Mo_ofTree_112 ?_
        refine V.callV2 d_Mo_ofTree_113 k_Mo_158_Mo_of_MoV mo_o (Nat.le_of_ble_eq_true rfl) (by omega) (by omega) (c_Mo_of (by omega) ?_)
        refine V.iret d_Mo_ofTree_116 rfl (Nat.le_of_ble_eq_true rfl) (Nat.le_of_ble_eq_true rfl) ?_
        exact hOk i 3 hi (by omega) rfl rfl
      · skip
        refine V.tabIn (tgt := 108) (off := 81) d_Mo_ofTree_27 (by decide +kernel) (by decide +kernel) (by decide +kernel) (by decide) ?_
        refine V.aload_n d_Mo_ofTree_108 rfl ?_
        refine V.iload_n d_Mo_ofTree_109 rfl ?_
        refine V.iload_n d_Mo_ofTree_110 rfl ?_
        refine V.iconst_ (nI 1) d_Mo_ofTree_111 (by decide +kernel) ?_
        refine V.addN d_Mo_ofTree_112 ?_
        refine V.callV2 d_Mo_ofTree_113 k_Mo_158_Mo_of_MoV mo_o (Nat.le_of_ble_eq_true rfl) (by omega) (by omega) (c_Mo_of (by omega) ?_)
        refine V.iret d_Mo_ofTree_116 rfl (Nat.le_of_ble_eq_true rfl) (Nat.le_of_ble_eq_true rfl) ?_
        exact hOk i 4 hi (by omega) rfl rfl
      · skip
        refine V.tabIn (tgt := 108) (off := 81) d_Mo_ofTree_27 (by decide +kernel) (by decide +kernel) (by decide +kernel) (by decide) ?_
        refine V.aload_n d_Mo_ofTree_108 rfl ?_
        refine V.iload_n d_Mo_ofTree_109 rfl ?_
        refine V.iload_n d_Mo_ofTree_110 rfl ?_
        refine V.iconst_ (nI 1) d_Mo_ofTree_111 (by decide +kernel) ?_
        refine V.addN d_Mo_ofTree_112 ?_
        refine V.callV2 d_Mo_ofTree_113 k_Mo_158_Mo_of_MoV mo_o (Nat.le_of_ble_eq_true rfl) (by omega) (by omega) (c_Mo_of (by omega) ?_)
        refine V.iret d_Mo_ofTree_116 rfl (Nat.le_of_ble_eq_true rfl) (Nat.le_of_ble_eq_true rfl) ?_
        exact hOk i 5 hi (by omega) rfl rfl
      · skip
        refine V.tabIn (tgt := 96) (off := 69) d_Mo_ofTree_27 (by decide +kernel) (by decide +kernel) (by decide +kernel) (by decide) ?_
        refine V.aload_n d_Mo_ofTree_96 rfl ?_
        refine V.iload_n d_Mo_ofTree_97 rfl ?_
        refine V.callV1 d_Mo_ofTree_98 k_Mo_177_Mo_limit_MoV mo_o (Nat.le_of_ble_eq_true rfl) (by omega) (by omega) (c_Mo_limit (by omega) ((hT i hi).1) ?_)
        refine V.iret d_Mo_ofTree_101 rfl (Nat.le_of_ble_eq_true rfl) (Nat.le_of_ble_eq_true rfl) ?_
        exact hOk i 6 hi (by omega) rfl rfl
      · skip
        refine V.tabIn (tgt := 102) (off := 75) d_Mo_ofTree_27 (by decide +kernel) (by decide +kernel) (by decide +kernel) (by decide) ?_
        refine V.aload_n d_Mo_ofTree_102 rfl ?_
        refine V.iload_n d_Mo_ofTree_103 rfl ?_
        refine V.callV1 d_Mo_ofTree_104 k_Mo_162_Mo_reaches_MoV mo_o (Nat.le_of_ble_eq_true rfl) (by omega) (by omega) (c_Mo_reaches (by omega) ?_)
        refine V.iret d_Mo_ofTree_107 rfl (Nat.le_of_ble_eq_true rfl) (Nat.le_of_ble_eq_true rfl) ?_
        exact hOk i 7 hi (by omega) rfl rfl
    · skip
      refine V.aload_n d_Mo_ofTree_20 rfl ?_
      refine V.iconst_ (nI 1) d_Mo_ofTree_21 (by decide +kernel) ?_
      refine V.callV1 d_Mo_ofTree_22 k_Mo_138_Mo_finds_MoV mo_o (Nat.le_of_ble_eq_true rfl) (by omega) (by omega) (c_Mo_finds (by omega) ?_)
      refine V.iret d_Mo_ofTree_25 rfl (Nat.le_of_ble_eq_true rfl) (Nat.le_of_ble_eq_true rfl) ?_
      exact hE (by simp only [c_5, c_17, Bool.and_false, Bool.false_and, Bool.and_true, Bool.true_and])
abbrev M_Mo_change : MD := (⟨"FelledByNamesModel", "change", "(III)I"⟩, prog_14_method_50_code, 5, (some .int), fun _ => True)
theorem d_Mo_change_0 : decode prog_14_method_50_code 0 = .ok (.aload_n 0, 1) := by decide +kernel
theorem d_Mo_change_1 : decode prog_14_method_50_code 1 = .ok (.iload_n 1, 1) := by decide +kernel
theorem d_Mo_change_2 : decode prog_14_method_50_code 2 = .ok (.invokevirtual 207, 3) := by decide +kernel
theorem d_Mo_change_5 : decode prog_14_method_50_code 5 = .ok (.ifCond .eq 46, 3) := by decide +kernel
theorem d_Mo_change_51 : decode prog_14_method_50_code 51 = .ok (.aload_n 0, 1) := by decide +kernel
theorem d_Mo_change_52 : decode prog_14_method_50_code 52 = .ok (.iconst 1, 1) := by decide +kernel
theorem d_Mo_change_53 : decode prog_14_method_50_code 53 = .ok (.invokevirtual 138, 3) := by decide +kernel
theorem d_Mo_change_56 : decode prog_14_method_50_code 56 = .ok (.ireturn, 1) := by decide +kernel
theorem d_Mo_change_8 : decode prog_14_method_50_code 8 = .ok (.iload_n 2, 1) := by decide +kernel
theorem d_Mo_change_9 : decode prog_14_method_50_code 9 = .ok (.i2l, 1) := by decide +kernel
theorem d_Mo_change_10 : decode prog_14_method_50_code 10 = .ok (.lconst 0, 1) := by decide +kernel
theorem d_Mo_change_11 : decode prog_14_method_50_code 11 = .ok (.ldc2_w 197, 3) := by decide +kernel
theorem d_Mo_change_14 : decode prog_14_method_50_code 14 = .ok (.invokestatic 56, 3) := by decide +kernel
theorem d_Mo_change_17 : decode prog_14_method_50_code 17 = .ok (.ifCond .eq 34, 3) := by decide +kernel
theorem d_Mo_change_20 : decode prog_14_method_50_code 20 = .ok (.iload_n 3, 1) := by decide +kernel
theorem d_Mo_change_21 : decode prog_14_method_50_code 21 = .ok (.i2l, 1) := by decide +kernel
theorem d_Mo_change_22 : decode prog_14_method_50_code 22 = .ok (.lconst 0, 1) := by decide +kernel
theorem d_Mo_change_23 : decode prog_14_method_50_code 23 = .ok (.iload_n 2, 1) := by decide +kernel
theorem d_Mo_change_24 : decode prog_14_method_50_code 24 = .ok (.ifCond .ne 9, 3) := by decide +kernel
theorem d_Mo_change_33 : decode prog_14_method_50_code 33 = .ok (.iload_n 2, 1) := by decide +kernel
theorem d_Mo_change_34 : decode prog_14_method_50_code 34 = .ok (.iconst 1, 1) := by decide +kernel
theorem d_Mo_change_35 : decode prog_14_method_50_code 35 = .ok (.if_icmp .ne 9, 3) := by decide +kernel
theorem d_Mo_change_44 : decode prog_14_method_50_code 44 = .ok (.lconst 1, 1) := by decide +kernel
theorem d_Mo_change_45 : decode prog_14_method_50_code 45 = .ok (.invokestatic 56, 3) := by decide +kernel
theorem d_Mo_change_48 : decode prog_14_method_50_code 48 = .ok (.ifCond .ne 9, 3) := by decide +kernel
theorem d_Mo_change_57 : decode prog_14_method_50_code 57 = .ok (.aload_n 0, 1) := by decide +kernel
theorem d_Mo_change_58 : decode prog_14_method_50_code 58 = .ok (.iload_n 1, 1) := by decide +kernel
theorem d_Mo_change_59 : decode prog_14_method_50_code 59 = .ok (.iconst 4, 1) := by decide +kernel
theorem d_Mo_change_60 : decode prog_14_method_50_code 60 = .ok (.iload_n 2, 1) := by decide +kernel
theorem d_Mo_change_61 : decode prog_14_method_50_code 61 = .ok (.iadd, 1) := by decide +kernel
theorem d_Mo_change_62 : decode prog_14_method_50_code 62 = .ok (.invokevirtual 158, 3) := by decide +kernel
theorem d_Mo_change_65 : decode prog_14_method_50_code 65 = .ok (.istore 4, 2) := by decide +kernel
theorem d_Mo_change_67 : decode prog_14_method_50_code 67 = .ok (.aload_n 0, 1) := by decide +kernel
theorem d_Mo_change_68 : decode prog_14_method_50_code 68 = .ok (.iload_n 1, 1) := by decide +kernel
theorem d_Mo_change_69 : decode prog_14_method_50_code 69 = .ok (.iconst 4, 1) := by decide +kernel
theorem d_Mo_change_70 : decode prog_14_method_50_code 70 = .ok (.iload_n 2, 1) := by decide +kernel
theorem d_Mo_change_71 : decode prog_14_method_50_code 71 = .ok (.iadd, 1) := by decide +kernel
theorem d_Mo_change_72 : decode prog_14_method_50_code 72 = .ok (.iload_n 3, 1) := by decide +kernel
theorem d_Mo_change_73 : decode prog_14_method_50_code 73 = .ok (.invokevirtual 165, 3) := by decide +kernel
theorem d_Mo_change_76 : decode prog_14_method_50_code 76 = .ok (.iload 4, 2) := by decide +kernel
theorem d_Mo_change_78 : decode prog_14_method_50_code 78 = .ok (.ireturn, 1) := by decide +kernel
theorem d_Mo_change_38 : decode prog_14_method_50_code 38 = .ok (.ldc2_w 193, 3) := by decide +kernel
theorem d_Mo_change_41 : decode prog_14_method_50_code 41 = .ok (.goto 4, 3) := by decide +kernel
theorem d_Mo_change_27 : decode prog_14_method_50_code 27 = .ok (.ldc2_w 199, 3) := by decide +kernel
theorem d_Mo_change_30 : decode prog_14_method_50_code 30 = .ok (.goto 15, 3) := by decide +kernel
set_option maxRecDepth 100000 in
theorem c_Mo_change {N : Nat} {x y v : Int32} {l : Launch} {d q n : Nat} {D : Nat → Int32} {A : Nat → Nat → Int32} {S : Nat → Int32} {h0 : HP} {Q : QT} (hN : N ≤ 8) (e0 : D 0 = nI N) (hE : (wi x (nI 0) (nI N - nI 1) && wi y (nI 0) (nI 2) && wi v (nI 0) (chm y)) = false → Q (some (.int (-1000000000 - nI 1))) n (mo q D (uA A 3 (upd (A 3) 1 (A 3 1 + nI 1))) S h0)) (hOk : ∀ i w, i < N → w ≤ 2 → x = nI i → y = nI w → wi v (nI 0) (chm y) = true → Q (some (.int (D (50 + 7 * i + (4 + w))))) n (mo q (upd D (50 + 7 * i + (4 + w)) v) A S h0)) : Ct l M_Mo_change (d + 2) 0 0 [.ref q, .int x, .int y, .int v] n (mo q D A S h0) Q := by
  refine Ct.of (fun _ => trivial) (by decide) (Nat.le_of_ble_eq_true rfl) ?_
  refine V.aload_n d_Mo_change_0 rfl ?_
  refine V.iload_n d_Mo_change_1 rfl ?_
  refine V.callV1 d_Mo_change_2 k_Mo_207_Mo_isTree_MoV mo_o (Nat.le_of_ble_eq_true rfl) (by omega) (by omega) (c_Mo_isTree ?_)
  rw [e0]
  refine V.ifeqB (tgt := 51) d_Mo_change_5 (by decide) (fun c_5 => ?_) (fun c_5 => ?_)
  · skip
    refine V.aload_n d_Mo_change_51 rfl ?_
    refine V.iconst_ (nI 1) d_Mo_change_52 (by decide +kernel) ?_
    refine V.callV1 d_Mo_change_53 k_Mo_138_Mo_finds_MoV mo_o (Nat.le_of_ble_eq_true rfl) (by omega) (by omega) (c_Mo_finds (by omega) ?_)
    refine V.iret d_Mo_change_56 rfl (Nat.le_of_ble_eq_true rfl) (Nat.le_of_ble_eq_true rfl) ?_
    exact hE (by first | (rw [hif, c_48, Bool.and_false]; done) | (rw [c_17, Bool.and_false, Bool.false_and]; done) | (rw [c_5, Bool.false_and, Bool.false_and]))
  · skip
    refine V.iload_n d_Mo_change_8 rfl ?_
    refine V.i2l d_Mo_change_9 ?_
    refine V.lconst_ ((nI 0).toInt64) d_Mo_change_10 (by decide +kernel) ?_
    refine V.ldc2 (v := 2) d_Mo_change_11 (tm 1261 (by decide +kernel) rfl) ?_
    refine V.eqS (st' := .long ((nI 2).toInt64) :: _) rfl ?_
    refine V.callS3 d_Mo_change_14 k_Mo_56_Mo_inS (Nat.le_of_ble_eq_true rfl) (by omega) (by omega) (c_Mo_in ?_)
    refine V.ifeqB (tgt := 51) d_Mo_change_17 (by decide) (fun c_17 => ?_) (fun c_17 => ?_)
    · skip
      refine V.aload_n d_Mo_change_51 rfl ?_
      refine V.iconst_ (nI 1) d_Mo_change_52 (by decide +kernel) ?_
      refine V.callV1 d_Mo_change_53 k_Mo_138_Mo_finds_MoV mo_o (Nat.le_of_ble_eq_true rfl) (by omega) (by omega) (c_Mo_finds (by omega) ?_)
      refine V.iret d_Mo_change_56 rfl (Nat.le_of_ble_eq_true rfl) (Nat.le_of_ble_eq_true rfl) ?_
      exact hE (by first | (rw [hif, c_48, Bool.and_false]; done) | (rw [c_17, Bool.and_false, Bool.false_and]; done) | (rw [c_5, Bool.false_and, Bool.false_and]))
    · skip
      refine V.iload_n d_Mo_change_20 rfl ?_
      refine V.i2l d_Mo_change_21 ?_
      refine V.lconst_ ((nI 0).toInt64) d_Mo_change_22 (by decide +kernel) ?_
      refine V.iload_n d_Mo_change_23 rfl ?_
      refine V.if_ne (tgt := 33) d_Mo_change_24 (by decide) (fun c_24 => ?_) (fun c_24 => ?_)
      · skip
        refine V.iload_n d_Mo_change_33 rfl ?_
        refine V.iconst_ (nI 1) d_Mo_change_34 (by decide +kernel) ?_
        refine V.icmp_ne (tgt := 44) d_Mo_change_35 (by decide) (fun c_35 => ?_) (fun c_35 => ?_)
        · skip
          have hif : chm y = nI 1 := by
            unfold chm
            first | (rw [if_pos (show y = nI 0 from c_24)]; done) | (rw [if_neg (show ¬ y = nI 0 from c_24), if_pos c_35]; done) | rw [if_neg (show ¬ y = nI 0 from c_24), if_neg c_35]
          refine V.lconst_ ((nI 1).toInt64) d_Mo_change_44 (by decide +kernel) ?_
          refine V.callS3 d_Mo_change_45 k_Mo_56_Mo_inS (Nat.le_of_ble_eq_true rfl) (by omega) (by omega) (c_Mo_in ?_)
          refine V.ifneB (tgt := 57) d_Mo_change_48 (by decide) (fun c_48 => ?_) (fun c_48 => ?_)
          · skip
            rw [← hif] at c_48
            obtain ⟨i, hi, hxi⟩ := tre_nat hN c_5
            obtain ⟨w, hw, hyw⟩ := wi_nat (by decide) c_17
            have hOk' := hOk i w hi hw hxi hyw c_48
            subst hxi
            subst hyw
            refine V.aload_n d_Mo_change_57 rfl ?_
            refine V.iload_n d_Mo_change_58 rfl ?_
            refine V.iconst_ (nI 4) d_Mo_change_59 (by decide +kernel) ?_
            refine V.iload_n d_Mo_change_60 rfl ?_
            refine V.addN d_Mo_change_61 ?_
            refine V.callV2 d_Mo_change_62 k_Mo_158_Mo_of_MoV mo_o (Nat.le_of_ble_eq_true rfl) (by omega) (by omega) (c_Mo_of (by omega) ?_)
            refine V.istore d_Mo_change_65 (by decide) ?_
            refine V.aload_n d_Mo_change_67 rfl ?_
            refine V.iload_n d_Mo_change_68 rfl ?_
            refine V.iconst_ (nI 4) d_Mo_change_69 (by decide +kernel) ?_
            refine V.iload_n d_Mo_change_70 rfl ?_
            refine V.addN d_Mo_change_71 ?_
            refine V.iload_n d_Mo_change_72 rfl ?_
            refine V.callV3 d_Mo_change_73 k_Mo_165_Mo_sets_MoV mo_o (Nat.le_of_ble_eq_true rfl) (by omega) (by omega) (c_Mo_sets (by omega) ?_)
            refine V.iload d_Mo_change_76 rfl ?_
            refine V.iret d_Mo_change_78 rfl (Nat.le_of_ble_eq_true rfl) (Nat.le_of_ble_eq_true rfl) ?_
            exact hOk'
          · skip
            refine V.aload_n d_Mo_change_51 rfl ?_
            refine V.iconst_ (nI 1) d_Mo_change_52 (by decide +kernel) ?_
            refine V.callV1 d_Mo_change_53 k_Mo_138_Mo_finds_MoV mo_o (Nat.le_of_ble_eq_true rfl) (by omega) (by omega) (c_Mo_finds (by omega) ?_)
            refine V.iret d_Mo_change_56 rfl (Nat.le_of_ble_eq_true rfl) (Nat.le_of_ble_eq_true rfl) ?_
            exact hE (by first | (rw [hif, c_48, Bool.and_false]; done) | (rw [c_17, Bool.and_false, Bool.false_and]; done) | (rw [c_5, Bool.false_and, Bool.false_and]))
        · skip
          have hif : chm y = nI 99 := by
            unfold chm
            first | (rw [if_pos (show y = nI 0 from c_24)]; done) | (rw [if_neg (show ¬ y = nI 0 from c_24), if_pos c_35]; done) | rw [if_neg (show ¬ y = nI 0 from c_24), if_neg c_35]
          refine V.ldc2 (v := 99) d_Mo_change_38 (tm 1239 (by decide +kernel) rfl) ?_
          refine V.eqS (st' := .long ((nI 99).toInt64) :: _) rfl ?_
          refine V.goto (tgt := 45) d_Mo_change_41 (by decide) ?_
          refine V.callS3 d_Mo_change_45 k_Mo_56_Mo_inS (Nat.le_of_ble_eq_true rfl) (by omega) (by omega) (c_Mo_in ?_)
          refine V.ifneB (tgt := 57) d_Mo_change_48 (by decide) (fun c_48 => ?_) (fun c_48 => ?_)
          · skip
            rw [← hif] at c_48
            obtain ⟨i, hi, hxi⟩ := tre_nat hN c_5
            obtain ⟨w, hw, hyw⟩ := wi_nat (by decide) c_17
            have hOk' := hOk i w hi hw hxi hyw c_48
            subst hxi
            subst hyw
            refine V.aload_n d_Mo_change_57 rfl ?_
            refine V.iload_n d_Mo_change_58 rfl ?_
            refine V.iconst_ (nI 4) d_Mo_change_59 (by decide +kernel) ?_
            refine V.iload_n d_Mo_change_60 rfl ?_
            refine V.addN d_Mo_change_61 ?_
            refine V.callV2 d_Mo_change_62 k_Mo_158_Mo_of_MoV mo_o (Nat.le_of_ble_eq_true rfl) (by omega) (by omega) (c_Mo_of (by omega) ?_)
            refine V.istore d_Mo_change_65 (by decide) ?_
            refine V.aload_n d_Mo_change_67 rfl ?_
            refine V.iload_n d_Mo_change_68 rfl ?_
            refine V.iconst_ (nI 4) d_Mo_change_69 (by decide +kernel) ?_
            refine V.iload_n d_Mo_change_70 rfl ?_
            refine V.addN d_Mo_change_71 ?_
            refine V.iload_n d_Mo_change_72 rfl ?_
            refine V.callV3 d_Mo_change_73 k_Mo_165_Mo_sets_MoV mo_o (Nat.le_of_ble_eq_true rfl) (by omega) (by omega) (c_Mo_sets (by omega) ?_)
            refine V.iload d_Mo_change_76 rfl ?_
            refine V.iret d_Mo_change_78 rfl (Nat.le_of_ble_eq_true rfl) (Nat.le_of_ble_eq_true rfl) ?_
            exact hOk'
          · skip
            refine V.aload_n d_Mo_change_51 rfl ?_
            refine V.iconst_ (nI 1) d_Mo_change_52 (by decide +kernel) ?_
            refine V.callV1 d_Mo_change_53 k_Mo_138_Mo_finds_MoV mo_o (Nat.le_of_ble_eq_true rfl) (by omega) (by omega) (c_Mo_finds (by omega) ?_)
            refine V.iret d_Mo_change_56 rfl (Nat.le_of_ble_eq_true rfl) (Nat.le_of_ble_eq_true rfl) ?_
            exact hE (by first | (rw [hif, c_48, Bool.and_false]; done) | (rw [c_17, Bool.and_false, Bool.false_and]; done) | (rw [c_5, Bool.false_and, Bool.false_and]))
      · skip
        have hif : chm y = nI 15 := by
          unfold chm
          first | (rw [if_pos (show y = nI 0 from c_24)]; done) | (rw [if_neg (show ¬ y = nI 0 from c_24), if_pos c_35]; done) | rw [if_neg (show ¬ y = nI 0 from c_24), if_neg c_35]
        refine V.ldc2 (v := 15) d_Mo_change_27 (tm 1262 (by decide +kernel) rfl) ?_
        refine V.eqS (st' := .long ((nI 15).toInt64) :: _) rfl ?_
        refine V.goto (tgt := 45) d_Mo_change_30 (by decide) ?_
        refine V.callS3 d_Mo_change_45 k_Mo_56_Mo_inS (Nat.le_of_ble_eq_true rfl) (by omega) (by omega) (c_Mo_in ?_)
        refine V.ifneB (tgt := 57) d_Mo_change_48 (by decide) (fun c_48 => ?_) (fun c_48 => ?_)
        · skip
          rw [← hif] at c_48
          obtain ⟨i, hi, hxi⟩ := tre_nat hN c_5
          obtain ⟨w, hw, hyw⟩ := wi_nat (by decide) c_17
          have hOk' := hOk i w hi hw hxi hyw c_48
          subst hxi
          subst hyw
          refine V.aload_n d_Mo_change_57 rfl ?_
          refine V.iload_n d_Mo_change_58 rfl ?_
          refine V.iconst_ (nI 4) d_Mo_change_59 (by decide +kernel) ?_
          refine V.iload_n d_Mo_change_60 rfl ?_
          refine V.addN d_Mo_change_61 ?_
          refine V.callV2 d_Mo_change_62 k_Mo_158_Mo_of_MoV mo_o (Nat.le_of_ble_eq_true rfl) (by omega) (by omega) (c_Mo_of (by omega) ?_)
          refine V.istore d_Mo_change_65 (by decide) ?_
          refine V.aload_n d_Mo_change_67 rfl ?_
          refine V.iload_n d_Mo_change_68 rfl ?_
          refine V.iconst_ (nI 4) d_Mo_change_69 (by decide +kernel) ?_
          refine V.iload_n d_Mo_change_70 rfl ?_
          refine V.addN d_Mo_change_71 ?_
          refine V.iload_n d_Mo_change_72 rfl ?_
          refine V.callV3 d_Mo_change_73 k_Mo_165_Mo_sets_MoV mo_o (Nat.le_of_ble_eq_true rfl) (by omega) (by omega) (c_Mo_sets (by omega) ?_)
          refine V.iload d_Mo_change_76 rfl ?_
          refine V.iret d_Mo_change_78 rfl (Nat.le_of_ble_eq_true rfl) (Nat.le_of_ble_eq_true rfl) ?_
          exact hOk'
        · skip
          refine V.aload_n d_Mo_change_51 rfl ?_
          refine V.iconst_ (nI 1) d_Mo_change_52 (by decide +kernel) ?_
          refine V.callV1 d_Mo_change_53 k_Mo_138_Mo_finds_MoV mo_o (Nat.le_of_ble_eq_true rfl) (by omega) (by omega) (c_Mo_finds (by omega) ?_)
          refine V.iret d_Mo_change_56 rfl (Nat.le_of_ble_eq_true rfl) (Nat.le_of_ble_eq_true rfl) ?_
          exact hE (by first | (rw [hif, c_48, Bool.and_false]; done) | (rw [c_17, Bool.and_false, Bool.false_and]; done) | (rw [c_5, Bool.false_and, Bool.false_and]))
abbrev M_Mo_become : MD := (⟨"FelledByNamesModel", "become", "(II)I"⟩, prog_14_method_51_code, 4, (some .int), fun _ => True)
theorem d_Mo_become_0 : decode prog_14_method_51_code 0 = .ok (.aload_n 0, 1) := by decide +kernel
theorem d_Mo_become_1 : decode prog_14_method_51_code 1 = .ok (.iload_n 1, 1) := by decide +kernel
theorem d_Mo_become_2 : decode prog_14_method_51_code 2 = .ok (.invokevirtual 207, 3) := by decide +kernel
theorem d_Mo_become_5 : decode prog_14_method_51_code 5 = .ok (.ifCond .eq 15, 3) := by decide +kernel
theorem d_Mo_become_20 : decode prog_14_method_51_code 20 = .ok (.aload_n 0, 1) := by decide +kernel
theorem d_Mo_become_21 : decode prog_14_method_51_code 21 = .ok (.iconst 1, 1) := by decide +kernel
theorem d_Mo_become_22 : decode prog_14_method_51_code 22 = .ok (.invokevirtual 138, 3) := by decide +kernel
theorem d_Mo_become_25 : decode prog_14_method_51_code 25 = .ok (.ireturn, 1) := by decide +kernel
theorem d_Mo_become_8 : decode prog_14_method_51_code 8 = .ok (.iload_n 2, 1) := by decide +kernel
theorem d_Mo_become_9 : decode prog_14_method_51_code 9 = .ok (.i2l, 1) := by decide +kernel
theorem d_Mo_become_10 : decode prog_14_method_51_code 10 = .ok (.lconst 0, 1) := by decide +kernel
theorem d_Mo_become_11 : decode prog_14_method_51_code 11 = .ok (.ldc2_w 205, 3) := by decide +kernel
theorem d_Mo_become_14 : decode prog_14_method_51_code 14 = .ok (.invokestatic 56, 3) := by decide +kernel
theorem d_Mo_become_17 : decode prog_14_method_51_code 17 = .ok (.ifCond .ne 9, 3) := by decide +kernel
theorem d_Mo_become_26 : decode prog_14_method_51_code 26 = .ok (.aload_n 0, 1) := by decide +kernel
theorem d_Mo_become_27 : decode prog_14_method_51_code 27 = .ok (.iload_n 1, 1) := by decide +kernel
theorem d_Mo_become_28 : decode prog_14_method_51_code 28 = .ok (.iconst 0, 1) := by decide +kernel
theorem d_Mo_become_29 : decode prog_14_method_51_code 29 = .ok (.invokevirtual 158, 3) := by decide +kernel
theorem d_Mo_become_32 : decode prog_14_method_51_code 32 = .ok (.istore_n 3, 1) := by decide +kernel
theorem d_Mo_become_33 : decode prog_14_method_51_code 33 = .ok (.aload_n 0, 1) := by decide +kernel
theorem d_Mo_become_34 : decode prog_14_method_51_code 34 = .ok (.iload_n 1, 1) := by decide +kernel
theorem d_Mo_become_35 : decode prog_14_method_51_code 35 = .ok (.iconst 0, 1) := by decide +kernel
theorem d_Mo_become_36 : decode prog_14_method_51_code 36 = .ok (.iload_n 2, 1) := by decide +kernel
theorem d_Mo_become_37 : decode prog_14_method_51_code 37 = .ok (.bipush 10, 2) := by decide +kernel
theorem d_Mo_become_39 : decode prog_14_method_51_code 39 = .ok (.idiv, 1) := by decide +kernel
theorem d_Mo_become_40 : decode prog_14_method_51_code 40 = .ok (.invokevirtual 165, 3) := by decide +kernel
theorem d_Mo_become_43 : decode prog_14_method_51_code 43 = .ok (.aload_n 0, 1) := by decide +kernel
theorem d_Mo_become_44 : decode prog_14_method_51_code 44 = .ok (.iload_n 1, 1) := by decide +kernel
theorem d_Mo_become_45 : decode prog_14_method_51_code 45 = .ok (.iconst 1, 1) := by decide +kernel
theorem d_Mo_become_46 : decode prog_14_method_51_code 46 = .ok (.iload_n 2, 1) := by decide +kernel
theorem d_Mo_become_47 : decode prog_14_method_51_code 47 = .ok (.bipush 10, 2) := by decide +kernel
theorem d_Mo_become_49 : decode prog_14_method_51_code 49 = .ok (.irem, 1) := by decide +kernel
theorem d_Mo_become_50 : decode prog_14_method_51_code 50 = .ok (.invokevirtual 165, 3) := by decide +kernel
theorem d_Mo_become_53 : decode prog_14_method_51_code 53 = .ok (.iload_n 3, 1) := by decide +kernel
theorem d_Mo_become_54 : decode prog_14_method_51_code 54 = .ok (.ireturn, 1) := by decide +kernel
set_option maxRecDepth 100000 in
theorem c_Mo_become {N : Nat} {x y : Int32} {l : Launch} {d q n : Nat} {D : Nat → Int32} {A : Nat → Nat → Int32} {S : Nat → Int32} {h0 : HP} {Q : QT} (hN : N ≤ 8) (e0 : D 0 = nI N) (hE : (wi x (nI 0) (nI N - nI 1) && wi y (nI 0) (nI 69)) = false → Q (some (.int (-1000000000 - nI 1))) n (mo q D (uA A 3 (upd (A 3) 1 (A 3 1 + nI 1))) S h0)) (hOk : ∀ i a, i < N → a ≤ 69 → x = nI i → y = nI a → Q (some (.int (D (50 + 7 * i + 0)))) n (mo q (upd (upd D (50 + 7 * i + 0) (nI (a / 10))) (50 + 7 * i + 1) (nI (a % 10))) A S h0)) : Ct l M_Mo_become (d + 2) 0 0 [.ref q, .int x, .int y] n (mo q D A S h0) Q := by
  refine Ct.of (fun _ => trivial) (by decide) (Nat.le_of_ble_eq_true rfl) ?_
  refine V.aload_n d_Mo_become_0 rfl ?_
  refine V.iload_n d_Mo_become_1 rfl ?_
  refine V.callV1 d_Mo_become_2 k_Mo_207_Mo_isTree_MoV mo_o (Nat.le_of_ble_eq_true rfl) (by omega) (by omega) (c_Mo_isTree ?_)
  rw [e0]
  refine V.ifeqB (tgt := 20) d_Mo_become_5 (by decide) (fun c_5 => ?_) (fun c_5 => ?_)
  · skip
    refine V.aload_n d_Mo_become_20 rfl ?_
    refine V.iconst_ (nI 1) d_Mo_become_21 (by decide +kernel) ?_
    refine V.callV1 d_Mo_become_22 k_Mo_138_Mo_finds_MoV mo_o (Nat.le_of_ble_eq_true rfl) (by omega) (by omega) (c_Mo_finds (by omega) ?_)
    refine V.iret d_Mo_become_25 rfl (Nat.le_of_ble_eq_true rfl) (Nat.le_of_ble_eq_true rfl) ?_
    exact hE (by simp only [c_5, Bool.and_false, Bool.false_and, Bool.and_true, Bool.true_and])
  · skip
    refine V.iload_n d_Mo_become_8 rfl ?_
    refine V.i2l d_Mo_become_9 ?_
    refine V.lconst_ ((nI 0).toInt64) d_Mo_become_10 (by decide +kernel) ?_
    refine V.ldc2 (v := 69) d_Mo_become_11 (tm 1269 (by decide +kernel) rfl) ?_
    refine V.eqS (st' := .long ((nI 69).toInt64) :: _) rfl ?_
    refine V.callS3 d_Mo_become_14 k_Mo_56_Mo_inS (Nat.le_of_ble_eq_true rfl) (by omega) (by omega) (c_Mo_in ?_)
    refine V.ifneB (tgt := 26) d_Mo_become_17 (by decide) (fun c_17 => ?_) (fun c_17 => ?_)
    · skip
      obtain ⟨i, hi, rfl⟩ := tre_nat hN c_5
      obtain ⟨a, ha, rfl⟩ := wi_nat (by decide) c_17
      refine V.aload_n d_Mo_become_26 rfl ?_
      refine V.iload_n d_Mo_become_27 rfl ?_
      refine V.iconst_ (nI 0) d_Mo_become_28 (by decide +kernel) ?_
      refine V.callV2 d_Mo_become_29 k_Mo_158_Mo_of_MoV mo_o (Nat.le_of_ble_eq_true rfl) (by omega) (by omega) (c_Mo_of (by omega) ?_)
      refine V.istore_n d_Mo_become_32 (by decide) ?_
      refine V.aload_n d_Mo_become_33 rfl ?_
      refine V.iload_n d_Mo_become_34 rfl ?_
      refine V.iconst_ (nI 0) d_Mo_become_35 (by decide +kernel) ?_
      refine V.iload_n d_Mo_become_36 rfl ?_
      refine V.bipush_ (nI 10) d_Mo_become_37 (by decide +kernel) ?_
      refine V.divN d_Mo_become_39 (by omega) (by omega) (by omega) ?_
      refine V.callV3 d_Mo_become_40 k_Mo_165_Mo_sets_MoV mo_o (Nat.le_of_ble_eq_true rfl) (by omega) (by omega) (c_Mo_sets (by omega) ?_)
      refine V.aload_n d_Mo_become_43 rfl ?_
      refine V.iload_n d_Mo_become_44 rfl ?_
      refine V.iconst_ (nI 1) d_Mo_become_45 (by decide +kernel) ?_
      refine V.iload_n d_Mo_become_46 rfl ?_
      refine V.bipush_ (nI 10) d_Mo_become_47 (by decide +kernel) ?_
      refine V.remN d_Mo_become_49 (by omega) (by omega) (by omega) ?_
      refine V.callV3 d_Mo_become_50 k_Mo_165_Mo_sets_MoV mo_o (Nat.le_of_ble_eq_true rfl) (by omega) (by omega) (c_Mo_sets (by omega) ?_)
      refine V.iload_n d_Mo_become_53 rfl ?_
      refine V.iret d_Mo_become_54 rfl (Nat.le_of_ble_eq_true rfl) (Nat.le_of_ble_eq_true rfl) ?_
      exact hOk i a hi ha rfl rfl
    · skip
      refine V.aload_n d_Mo_become_20 rfl ?_
      refine V.iconst_ (nI 1) d_Mo_become_21 (by decide +kernel) ?_
      refine V.callV1 d_Mo_become_22 k_Mo_138_Mo_finds_MoV mo_o (Nat.le_of_ble_eq_true rfl) (by omega) (by omega) (c_Mo_finds (by omega) ?_)
      refine V.iret d_Mo_become_25 rfl (Nat.le_of_ble_eq_true rfl) (Nat.le_of_ble_eq_true rfl) ?_
      exact hE (by simp only [c_5, c_17, Bool.and_false, Bool.false_and, Bool.and_true, Bool.true_and])
abbrev M_Mo_as : MD := (⟨"FelledByNamesModel", "as", "(II)I"⟩, prog_14_method_52_code, 4, (some .int), fun _ => True)
theorem d_Mo_as_0 : decode prog_14_method_52_code 0 = .ok (.aload_n 0, 1) := by decide +kernel
theorem d_Mo_as_1 : decode prog_14_method_52_code 1 = .ok (.iload_n 1, 1) := by decide +kernel
theorem d_Mo_as_2 : decode prog_14_method_52_code 2 = .ok (.invokevirtual 207, 3) := by decide +kernel
theorem d_Mo_as_5 : decode prog_14_method_52_code 5 = .ok (.ifCond .eq 15, 3) := by decide +kernel
theorem d_Mo_as_20 : decode prog_14_method_52_code 20 = .ok (.aload_n 0, 1) := by decide +kernel
theorem d_Mo_as_21 : decode prog_14_method_52_code 21 = .ok (.iconst 1, 1) := by decide +kernel
theorem d_Mo_as_22 : decode prog_14_method_52_code 22 = .ok (.invokevirtual 138, 3) := by decide +kernel
theorem d_Mo_as_25 : decode prog_14_method_52_code 25 = .ok (.ireturn, 1) := by decide +kernel
theorem d_Mo_as_8 : decode prog_14_method_52_code 8 = .ok (.iload_n 2, 1) := by decide +kernel
theorem d_Mo_as_9 : decode prog_14_method_52_code 9 = .ok (.i2l, 1) := by decide +kernel
theorem d_Mo_as_10 : decode prog_14_method_52_code 10 = .ok (.lconst 0, 1) := by decide +kernel
theorem d_Mo_as_11 : decode prog_14_method_52_code 11 = .ok (.ldc2_w 212, 3) := by decide +kernel
theorem d_Mo_as_14 : decode prog_14_method_52_code 14 = .ok (.invokestatic 56, 3) := by decide +kernel
theorem d_Mo_as_17 : decode prog_14_method_52_code 17 = .ok (.ifCond .ne 9, 3) := by decide +kernel
theorem d_Mo_as_26 : decode prog_14_method_52_code 26 = .ok (.aload_n 0, 1) := by decide +kernel
theorem d_Mo_as_27 : decode prog_14_method_52_code 27 = .ok (.iload_n 1, 1) := by decide +kernel
theorem d_Mo_as_28 : decode prog_14_method_52_code 28 = .ok (.iconst 0, 1) := by decide +kernel
theorem d_Mo_as_29 : decode prog_14_method_52_code 29 = .ok (.invokevirtual 158, 3) := by decide +kernel
theorem d_Mo_as_32 : decode prog_14_method_52_code 32 = .ok (.istore_n 3, 1) := by decide +kernel
theorem d_Mo_as_33 : decode prog_14_method_52_code 33 = .ok (.iload_n 2, 1) := by decide +kernel
theorem d_Mo_as_34 : decode prog_14_method_52_code 34 = .ok (.ifCond .eq 16, 3) := by decide +kernel
theorem d_Mo_as_50 : decode prog_14_method_52_code 50 = .ok (.aload_n 0, 1) := by decide +kernel
theorem d_Mo_as_51 : decode prog_14_method_52_code 51 = .ok (.iload_n 1, 1) := by decide +kernel
theorem d_Mo_as_52 : decode prog_14_method_52_code 52 = .ok (.iconst 1, 1) := by decide +kernel
theorem d_Mo_as_53 : decode prog_14_method_52_code 53 = .ok (.invokevirtual 158, 3) := by decide +kernel
theorem d_Mo_as_56 : decode prog_14_method_52_code 56 = .ok (.goto 8, 3) := by decide +kernel
theorem d_Mo_as_64 : decode prog_14_method_52_code 64 = .ok (.ireturn, 1) := by decide +kernel
theorem d_Mo_as_37 : decode prog_14_method_52_code 37 = .ok (.iload_n 3, 1) := by decide +kernel
theorem d_Mo_as_38 : decode prog_14_method_52_code 38 = .ok (.iload_n 2, 1) := by decide +kernel
theorem d_Mo_as_39 : decode prog_14_method_52_code 39 = .ok (.if_icmp .eq 11, 3) := by decide +kernel
theorem d_Mo_as_42 : decode prog_14_method_52_code 42 = .ok (.iload_n 3, 1) := by decide +kernel
theorem d_Mo_as_43 : decode prog_14_method_52_code 43 = .ok (.invokestatic 214, 3) := by decide +kernel
theorem kB_Mo_above : kB M_Mo_above 1 := ⟨tm 15 (by decide +kernel) rfl, tm 1310 (by decide +kernel) rfl, ⟨by decide, by decide, by decide +kernel⟩, by decide⟩
theorem k_Mo_214_Mo_aboveS : kS "FelledByNamesModel" 214 M_Mo_above 1 := ⟨kB_Mo_above, tm 1308 (by decide +kernel) rfl, tm 1309 (by decide +kernel) rfl⟩
theorem d_Mo_as_46 : decode prog_14_method_52_code 46 = .ok (.iload_n 2, 1) := by decide +kernel
theorem d_Mo_as_47 : decode prog_14_method_52_code 47 = .ok (.if_icmp .ne 12, 3) := by decide +kernel
theorem d_Mo_as_59 : decode prog_14_method_52_code 59 = .ok (.aload_n 0, 1) := by decide +kernel
theorem d_Mo_as_60 : decode prog_14_method_52_code 60 = .ok (.iconst 5, 1) := by decide +kernel
theorem d_Mo_as_61 : decode prog_14_method_52_code 61 = .ok (.invokevirtual 138, 3) := by decide +kernel
set_option maxRecDepth 100000 in
theorem c_Mo_as {N : Nat} {x y : Int32} {l : Launch} {d q n : Nat} {D : Nat → Int32} {A : Nat → Nat → Int32} {S : Nat → Int32} {h0 : HP} {Q : QT} (hN : N ≤ 8) (e0 : D 0 = nI N) (hT : TS D N) (hE : (wi x (nI 0) (nI N - nI 1) && wi y (nI 0) (nI 6)) = false → Q (some (.int (-1000000000 - nI 1))) n (mo q D (uA A 3 (upd (A 3) 1 (A 3 1 + nI 1))) S h0)) (hK : ∀ i k w, i < N → D (50 + 7 * i + 0) = nI k → k ≤ 6 → w ≤ 6 → x = nI i → y = nI w → ¬ (w = 0 ∨ k = w ∨ k - 3 = w) → Q (some (.int (-1000000000 - nI 5))) n (mo q D (uA A 3 (upd (A 3) 5 (A 3 5 + nI 1))) S h0)) (hOk : ∀ i k w, i < N → D (50 + 7 * i + 0) = nI k → k ≤ 6 → w ≤ 6 → x = nI i → y = nI w → (w = 0 ∨ k = w ∨ k - 3 = w) → Q (some (.int (D (50 + 7 * i + 1)))) n (mo q D A S h0)) : Ct l M_Mo_as (d + 2) 0 0 [.ref q, .int x, .int y] n (mo q D A S h0) Q := by
  refine Ct.of (fun _ => trivial) (by decide) (Nat.le_of_ble_eq_true rfl) ?_
  refine V.aload_n d_Mo_as_0 rfl ?_
  refine V.iload_n d_Mo_as_1 rfl ?_
  refine V.callV1 d_Mo_as_2 k_Mo_207_Mo_isTree_MoV mo_o (Nat.le_of_ble_eq_true rfl) (by omega) (by omega) (c_Mo_isTree ?_)
  rw [e0]
  refine V.ifeqB (tgt := 20) d_Mo_as_5 (by decide) (fun c_5 => ?_) (fun c_5 => ?_)
  · skip
    refine V.aload_n d_Mo_as_20 rfl ?_
    refine V.iconst_ (nI 1) d_Mo_as_21 (by decide +kernel) ?_
    refine V.callV1 d_Mo_as_22 k_Mo_138_Mo_finds_MoV mo_o (Nat.le_of_ble_eq_true rfl) (by omega) (by omega) (c_Mo_finds (by omega) ?_)
    refine V.iret d_Mo_as_25 rfl (Nat.le_of_ble_eq_true rfl) (Nat.le_of_ble_eq_true rfl) ?_
    exact hE (by simp only [c_5, Bool.and_false, Bool.false_and, Bool.and_true, Bool.true_and])
  · skip
    refine V.iload_n d_Mo_as_8 rfl ?_
    refine V.i2l d_Mo_as_9 ?_
    refine V.lconst_ ((nI 0).toInt64) d_Mo_as_10 (by decide +kernel) ?_
    refine V.ldc2 (v := 6) d_Mo_as_11 (tm 1307 (by decide +kernel) rfl) ?_
    refine V.eqS (st' := .long ((nI 6).toInt64) :: _) rfl ?_
    refine V.callS3 d_Mo_as_14 k_Mo_56_Mo_inS (Nat.le_of_ble_eq_true rfl) (by omega) (by omega) (c_Mo_in ?_)
    refine V.ifneB (tgt := 26) d_Mo_as_17 (by decide) (fun c_17 => ?_) (fun c_17 => ?_)
    · skip
      obtain ⟨i, hi, rfl⟩ := tre_nat hN c_5
      obtain ⟨w, hw, rfl⟩ := wi_nat (by decide) c_17
      obtain ⟨k, hk, ek⟩ := (hT i hi).1
      refine V.aload_n d_Mo_as_26 rfl ?_
      refine V.iload_n d_Mo_as_27 rfl ?_
      refine V.iconst_ (nI 0) d_Mo_as_28 (by decide +kernel) ?_
      refine V.callV2 d_Mo_as_29 k_Mo_158_Mo_of_MoV mo_o (Nat.le_of_ble_eq_true rfl) (by omega) (by omega) (c_Mo_of (by omega) ?_)
      refine V.top ek ?_
      refine V.istore_n d_Mo_as_32 (by decide) ?_
      refine V.iload_n d_Mo_as_33 rfl ?_
      refine V.if_eq (tgt := 50) d_Mo_as_34 (by decide) (fun c_34 => ?_) (fun c_34 => ?_)
      · skip
        refine V.aload_n d_Mo_as_50 rfl ?_
        refine V.iload_n d_Mo_as_51 rfl ?_
        refine V.iconst_ (nI 1) d_Mo_as_52 (by decide +kernel) ?_
        refine V.callV2 d_Mo_as_53 k_Mo_158_Mo_of_MoV mo_o (Nat.le_of_ble_eq_true rfl) (by omega) (by omega) (c_Mo_of (by omega) ?_)
        refine V.goto (tgt := 64) d_Mo_as_56 (by decide) ?_
        refine V.iret d_Mo_as_64 rfl (Nat.le_of_ble_eq_true rfl) (Nat.le_of_ble_eq_true rfl) ?_
        first | exact hOk i k w hi ek hk hw rfl rfl (Or.inl ((nI_eq (by omega) (by decide)).mp (show nI w = nI 0 from c_34))) | exact hOk i k w hi ek hk hw rfl rfl (Or.inr (Or.inl c_39)) | exact hOk i k w hi ek hk hw rfl rfl (Or.inr (Or.inr c_47)) | exact hK i k w hi ek hk hw rfl rfl (fun z => z.elim (fun z => c_34 (by rw [z]; rfl)) (fun z => z.elim c_39 c_47))
      · skip
        refine V.iload_n d_Mo_as_37 rfl ?_
        refine V.iload_n d_Mo_as_38 rfl ?_
        refine V.eqN (tgt := 50) d_Mo_as_39 (by decide) (by omega) (by omega) (fun c_39 => ?_) (fun c_39 => ?_)
        · skip
          refine V.aload_n d_Mo_as_50 rfl ?_
          refine V.iload_n d_Mo_as_51 rfl ?_
          refine V.iconst_ (nI 1) d_Mo_as_52 (by decide +kernel) ?_
          refine V.callV2 d_Mo_as_53 k_Mo_158_Mo_of_MoV mo_o (Nat.le_of_ble_eq_true rfl) (by omega) (by omega) (c_Mo_of (by omega) ?_)
          refine V.goto (tgt := 64) d_Mo_as_56 (by decide) ?_
          refine V.iret d_Mo_as_64 rfl (Nat.le_of_ble_eq_true rfl) (Nat.le_of_ble_eq_true rfl) ?_
          first | exact hOk i k w hi ek hk hw rfl rfl (Or.inl ((nI_eq (by omega) (by decide)).mp (show nI w = nI 0 from c_34))) | exact hOk i k w hi ek hk hw rfl rfl (Or.inr (Or.inl c_39)) | exact hOk i k w hi ek hk hw rfl rfl (Or.inr (Or.inr c_47)) | exact hK i k w hi ek hk hw rfl rfl (fun z => z.elim (fun z => c_34 (by rw [z]; rfl)) (fun z => z.elim c_39 c_47))
        · skip
          refine V.iload_n d_Mo_as_42 rfl ?_
          refine V.callS1 d_Mo_as_43 k_Mo_214_Mo_aboveS (Nat.le_of_ble_eq_true rfl) (by omega) (by omega) (c_Mo_above (by omega) ?_)
          refine V.iload_n d_Mo_as_46 rfl ?_
          refine V.neN (tgt := 59) d_Mo_as_47 (by decide) (by omega) (by omega) (fun c_47 => ?_) (fun c_47 => ?_)
          · skip
            refine V.aload_n d_Mo_as_59 rfl ?_
            refine V.iconst_ (nI 5) d_Mo_as_60 (by decide +kernel) ?_
            refine V.callV1 d_Mo_as_61 k_Mo_138_Mo_finds_MoV mo_o (Nat.le_of_ble_eq_true rfl) (by omega) (by omega) (c_Mo_finds (by omega) ?_)
            refine V.iret d_Mo_as_64 rfl (Nat.le_of_ble_eq_true rfl) (Nat.le_of_ble_eq_true rfl) ?_
            first | exact hOk i k w hi ek hk hw rfl rfl (Or.inl ((nI_eq (by omega) (by decide)).mp (show nI w = nI 0 from c_34))) | exact hOk i k w hi ek hk hw rfl rfl (Or.inr (Or.inl c_39)) | exact hOk i k w hi ek hk hw rfl rfl (Or.inr (Or.inr c_47)) | exact hK i k w hi ek hk hw rfl rfl (fun z => z.elim (fun z => c_34 (by rw [z]; rfl)) (fun z => z.elim c_39 c_47))
          · skip
            refine V.aload_n d_Mo_as_50 rfl ?_
            refine V.iload_n d_Mo_as_51 rfl ?_
            refine V.iconst_ (nI 1) d_Mo_as_52 (by decide +kernel) ?_
            refine V.callV2 d_Mo_as_53 k_Mo_158_Mo_of_MoV mo_o (Nat.le_of_ble_eq_true rfl) (by omega) (by omega) (c_Mo_of (by omega) ?_)
            refine V.goto (tgt := 64) d_Mo_as_56 (by decide) ?_
            refine V.iret d_Mo_as_64 rfl (Nat.le_of_ble_eq_true rfl) (Nat.le_of_ble_eq_true rfl) ?_
            first | exact hOk i k w hi ek hk hw rfl rfl (Or.inl ((nI_eq (by omega) (by decide)).mp (show nI w = nI 0 from c_34))) | exact hOk i k w hi ek hk hw rfl rfl (Or.inr (Or.inl c_39)) | exact hOk i k w hi ek hk hw rfl rfl (Or.inr (Or.inr c_47)) | exact hK i k w hi ek hk hw rfl rfl (fun z => z.elim (fun z => c_34 (by rw [z]; rfl)) (fun z => z.elim c_39 c_47))
    · skip
      refine V.aload_n d_Mo_as_20 rfl ?_
      refine V.iconst_ (nI 1) d_Mo_as_21 (by decide +kernel) ?_
      refine V.callV1 d_Mo_as_22 k_Mo_138_Mo_finds_MoV mo_o (Nat.le_of_ble_eq_true rfl) (by omega) (by omega) (c_Mo_finds (by omega) ?_)
      refine V.iret d_Mo_as_25 rfl (Nat.le_of_ble_eq_true rfl) (Nat.le_of_ble_eq_true rfl) ?_
      exact hE (by simp only [c_5, c_17, Bool.and_false, Bool.false_and, Bool.and_true, Bool.true_and])
abbrev M_Mo_seed : MD := (⟨"FelledByNamesModel", "seed", "(I)I"⟩, prog_14_method_70_code, 3, (some .int), fun _ => True)
theorem d_Mo_seed_0 : decode prog_14_method_70_code 0 = .ok (.aload_n 0, 1) := by decide +kernel
theorem d_Mo_seed_1 : decode prog_14_method_70_code 1 = .ok (.getfield 7, 3) := by decide +kernel
theorem d_Mo_seed_4 : decode prog_14_method_70_code 4 = .ok (.iconst 5, 1) := by decide +kernel
theorem d_Mo_seed_5 : decode prog_14_method_70_code 5 = .ok (.iaload, 1) := by decide +kernel
theorem d_Mo_seed_6 : decode prog_14_method_70_code 6 = .ok (.istore_n 2, 1) := by decide +kernel
theorem d_Mo_seed_7 : decode prog_14_method_70_code 7 = .ok (.aload_n 0, 1) := by decide +kernel
theorem d_Mo_seed_8 : decode prog_14_method_70_code 8 = .ok (.getfield 7, 3) := by decide +kernel
theorem d_Mo_seed_11 : decode prog_14_method_70_code 11 = .ok (.iconst 5, 1) := by decide +kernel
theorem d_Mo_seed_12 : decode prog_14_method_70_code 12 = .ok (.iload_n 1, 1) := by decide +kernel
theorem d_Mo_seed_13 : decode prog_14_method_70_code 13 = .ok (.iastore, 1) := by decide +kernel
theorem d_Mo_seed_14 : decode prog_14_method_70_code 14 = .ok (.iload_n 2, 1) := by decide +kernel
theorem d_Mo_seed_15 : decode prog_14_method_70_code 15 = .ok (.ireturn, 1) := by decide +kernel
set_option maxRecDepth 100000 in
theorem c_Mo_seed {v : Int32} {l : Launch} {d q n : Nat} {D : Nat → Int32} {A : Nat → Nat → Int32} {S : Nat → Int32} {h0 : HP} {Q : QT} (hQ : Q (some (.int (D 5))) n (mo q (upd D 5 v) A S h0)) : Ct l M_Mo_seed d 0 0 [.ref q, .int v] n (mo q D A S h0) Q := by
  refine Ct.of (fun _ => trivial) (by decide) (Nat.le_of_ble_eq_true rfl) ?_
  refine V.aload_n d_Mo_seed_0 rfl ?_
  refine V.get d_Mo_seed_1 f_Mo_7_Mo mo_o rfl ?_
  refine V.iconst_ (nI 5) d_Mo_seed_4 (by decide +kernel) ?_
  refine V.mldd d_Mo_seed_5 (by omega) ?_
  refine V.istore_n d_Mo_seed_6 (by decide) ?_
  refine V.aload_n d_Mo_seed_7 rfl ?_
  refine V.get d_Mo_seed_8 f_Mo_7_Mo mo_o rfl ?_
  refine V.iconst_ (nI 5) d_Mo_seed_11 (by decide +kernel) ?_
  refine V.iload_n d_Mo_seed_12 rfl ?_
  refine V.mstd d_Mo_seed_13 (by omega) ?_
  refine V.iload_n d_Mo_seed_14 rfl ?_
  refine V.iret d_Mo_seed_15 rfl (Nat.le_of_ble_eq_true rfl) (Nat.le_of_ble_eq_true rfl) ?_
  exact hQ
abbrev M_Mo_trace : MD := (⟨"FelledByNamesModel", "trace", "(I)I"⟩, prog_14_method_77_code, 2, (some .int), fun _ => True)
theorem d_Mo_trace_0 : decode prog_14_method_77_code 0 = .ok (.iload_n 1, 1) := by decide +kernel
theorem d_Mo_trace_1 : decode prog_14_method_77_code 1 = .ok (.i2l, 1) := by decide +kernel
theorem d_Mo_trace_2 : decode prog_14_method_77_code 2 = .ok (.lconst 0, 1) := by decide +kernel
theorem d_Mo_trace_3 : decode prog_14_method_77_code 3 = .ok (.aload_n 0, 1) := by decide +kernel
theorem d_Mo_trace_4 : decode prog_14_method_77_code 4 = .ok (.getfield 251, 3) := by decide +kernel
theorem f_Mo_251_Mo : fok "FelledByNamesModel" 251 5 20 := ⟨R_Mo, F_Mo, 26, "FelledByNamesModel", rfl, i_Mo, by decide, tm 1079 (by decide +kernel) rfl, Or.inl rfl, t_Mo, t_Mo_ok, n_Mo⟩
theorem d_Mo_trace_7 : decode prog_14_method_77_code 7 = .ok (.iconst 1, 1) := by decide +kernel
theorem d_Mo_trace_8 : decode prog_14_method_77_code 8 = .ok (.isub, 1) := by decide +kernel
theorem d_Mo_trace_9 : decode prog_14_method_77_code 9 = .ok (.i2l, 1) := by decide +kernel
theorem d_Mo_trace_10 : decode prog_14_method_77_code 10 = .ok (.invokestatic 56, 3) := by decide +kernel
theorem d_Mo_trace_13 : decode prog_14_method_77_code 13 = .ok (.ifCond .eq 12, 3) := by decide +kernel
theorem d_Mo_trace_25 : decode prog_14_method_77_code 25 = .ok (.aload_n 0, 1) := by decide +kernel
theorem d_Mo_trace_26 : decode prog_14_method_77_code 26 = .ok (.iconst 2, 1) := by decide +kernel
theorem d_Mo_trace_27 : decode prog_14_method_77_code 27 = .ok (.invokevirtual 138, 3) := by decide +kernel
theorem d_Mo_trace_30 : decode prog_14_method_77_code 30 = .ok (.ireturn, 1) := by decide +kernel
theorem d_Mo_trace_16 : decode prog_14_method_77_code 16 = .ok (.aload_n 0, 1) := by decide +kernel
theorem d_Mo_trace_17 : decode prog_14_method_77_code 17 = .ok (.getfield 40, 3) := by decide +kernel
theorem f_Mo_40_Mo : fok "FelledByNamesModel" 40 5 19 := ⟨R_Mo, F_Mo, 26, "FelledByNamesModel", rfl, i_Mo, by decide, tm 1078 (by decide +kernel) rfl, Or.inl rfl, t_Mo, t_Mo_ok, n_Mo⟩
theorem d_Mo_trace_20 : decode prog_14_method_77_code 20 = .ok (.iload_n 1, 1) := by decide +kernel
theorem d_Mo_trace_21 : decode prog_14_method_77_code 21 = .ok (.iaload, 1) := by decide +kernel
theorem d_Mo_trace_22 : decode prog_14_method_77_code 22 = .ok (.goto 8, 3) := by decide +kernel
set_option maxRecDepth 100000 in
theorem c_Mo_trace {tm : Nat} {x : Int32} {l : Launch} {d q n : Nat} {D : Nat → Int32} {A : Nat → Nat → Int32} {S : Nat → Int32} {h0 : HP} {Q : QT} (htm : tm ≤ 40) (et : S 20 = nI tm) (hE : wi x (nI 0) (nI tm - nI 1) = false → Q (some (.int (-1000000000 - nI 2))) n (mo q D (uA A 3 (upd (A 3) 2 (A 3 2 + nI 1))) S h0)) (hOk : ∀ i, i < tm → x = nI i → Q (some (.int (A 10 i))) n (mo q D A S h0)) : Ct l M_Mo_trace (d + 1) 0 0 [.ref q, .int x] n (mo q D A S h0) Q := by
  refine Ct.of (fun _ => trivial) (by decide) (Nat.le_of_ble_eq_true rfl) ?_
  refine V.iload_n d_Mo_trace_0 rfl ?_
  refine V.i2l d_Mo_trace_1 ?_
  refine V.lconst_ ((nI 0).toInt64) d_Mo_trace_2 (by decide +kernel) ?_
  refine V.aload_n d_Mo_trace_3 rfl ?_
  refine V.get d_Mo_trace_4 f_Mo_251_Mo mo_o rfl ?_
  refine V.top et ?_
  refine V.iconst_ (nI 1) d_Mo_trace_7 (by decide +kernel) ?_
  refine V.isub d_Mo_trace_8 ?_
  refine V.i2l d_Mo_trace_9 ?_
  refine V.callS3 d_Mo_trace_10 k_Mo_56_Mo_inS (Nat.le_of_ble_eq_true rfl) (by omega) (by omega) (c_Mo_in ?_)
  refine V.ifeqB (tgt := 25) d_Mo_trace_13 (by decide) (fun c_13 => ?_) (fun c_13 => ?_)
  · skip
    refine V.aload_n d_Mo_trace_25 rfl ?_
    refine V.iconst_ (nI 2) d_Mo_trace_26 (by decide +kernel) ?_
    refine V.callV1 d_Mo_trace_27 k_Mo_138_Mo_finds_MoV mo_o (Nat.le_of_ble_eq_true rfl) (by omega) (by omega) (c_Mo_finds (by omega) ?_)
    refine V.iret d_Mo_trace_30 rfl (Nat.le_of_ble_eq_true rfl) (Nat.le_of_ble_eq_true rfl) ?_
    first | exact hOk i hi rfl | exact hE c_13
  · skip
    obtain ⟨i, hi, rfl⟩ := idx_nat (by omega) c_13
    refine V.aload_n d_Mo_trace_16 rfl ?_
    refine V.get d_Mo_trace_17 f_Mo_40_Mo mo_o rfl ?_
    refine V.iload_n d_Mo_trace_20 rfl ?_
    refine V.mlda 10 (by decide) (by decide) d_Mo_trace_21 (by first | omega | (show _ < 40; omega)) ?_
    refine V.goto (tgt := 30) d_Mo_trace_22 (by decide) ?_
    refine V.iret d_Mo_trace_30 rfl (Nat.le_of_ble_eq_true rfl) (Nat.le_of_ble_eq_true rfl) ?_
    first | exact hOk i hi rfl | exact hE c_13
abbrev M_Mo_told : MD := (⟨"FelledByNamesModel", "told", "(I)I"⟩, prog_14_method_89_code, 2, (some .int), fun _ => True)
theorem d_Mo_told_0 : decode prog_14_method_89_code 0 = .ok (.iload_n 1, 1) := by decide +kernel
theorem d_Mo_told_1 : decode prog_14_method_89_code 1 = .ok (.i2l, 1) := by decide +kernel
theorem d_Mo_told_2 : decode prog_14_method_89_code 2 = .ok (.lconst 1, 1) := by decide +kernel
theorem d_Mo_told_3 : decode prog_14_method_89_code 3 = .ok (.ldc2_w 60, 3) := by decide +kernel
theorem d_Mo_told_6 : decode prog_14_method_89_code 6 = .ok (.invokestatic 56, 3) := by decide +kernel
theorem d_Mo_told_9 : decode prog_14_method_89_code 9 = .ok (.ifCond .eq 12, 3) := by decide +kernel
theorem d_Mo_told_21 : decode prog_14_method_89_code 21 = .ok (.aload_n 0, 1) := by decide +kernel
theorem d_Mo_told_22 : decode prog_14_method_89_code 22 = .ok (.iconst 1, 1) := by decide +kernel
theorem d_Mo_told_23 : decode prog_14_method_89_code 23 = .ok (.invokevirtual 138, 3) := by decide +kernel
theorem d_Mo_told_26 : decode prog_14_method_89_code 26 = .ok (.ireturn, 1) := by decide +kernel
theorem d_Mo_told_12 : decode prog_14_method_89_code 12 = .ok (.aload_n 0, 1) := by decide +kernel
theorem d_Mo_told_13 : decode prog_14_method_89_code 13 = .ok (.getfield 19, 3) := by decide +kernel
theorem d_Mo_told_16 : decode prog_14_method_89_code 16 = .ok (.iload_n 1, 1) := by decide +kernel
theorem d_Mo_told_17 : decode prog_14_method_89_code 17 = .ok (.iaload, 1) := by decide +kernel
theorem d_Mo_told_18 : decode prog_14_method_89_code 18 = .ok (.goto 8, 3) := by decide +kernel
set_option maxRecDepth 100000 in
theorem c_Mo_told {x : Int32} {l : Launch} {d q n : Nat} {D : Nat → Int32} {A : Nat → Nat → Int32} {S : Nat → Int32} {h0 : HP} {Q : QT} (hE : wi x (nI 1) (nI 5) = false → Q (some (.int (-1000000000 - nI 1))) n (mo q D (uA A 3 (upd (A 3) 1 (A 3 1 + nI 1))) S h0)) (hOk : ∀ i, 1 ≤ i → i ≤ 5 → x = nI i → Q (some (.int (A 3 i))) n (mo q D A S h0)) : Ct l M_Mo_told (d + 1) 0 0 [.ref q, .int x] n (mo q D A S h0) Q := by
  refine Ct.of (fun _ => trivial) (by decide) (Nat.le_of_ble_eq_true rfl) ?_
  refine V.iload_n d_Mo_told_0 rfl ?_
  refine V.i2l d_Mo_told_1 ?_
  refine V.lconst_ ((nI 1).toInt64) d_Mo_told_2 (by decide +kernel) ?_
  refine V.ldc2 (v := 5) d_Mo_told_3 (tm 1238 (by decide +kernel) rfl) ?_
  refine V.eqS (st' := .long ((nI 5).toInt64) :: _) rfl ?_
  refine V.callS3 d_Mo_told_6 k_Mo_56_Mo_inS (Nat.le_of_ble_eq_true rfl) (by omega) (by omega) (c_Mo_in ?_)
  refine V.ifeqB (tgt := 21) d_Mo_told_9 (by decide) (fun c_9 => ?_) (fun c_9 => ?_)
  · skip
    refine V.aload_n d_Mo_told_21 rfl ?_
    refine V.iconst_ (nI 1) d_Mo_told_22 (by decide +kernel) ?_
    refine V.callV1 d_Mo_told_23 k_Mo_138_Mo_finds_MoV mo_o (Nat.le_of_ble_eq_true rfl) (by omega) (by omega) (c_Mo_finds (by omega) ?_)
    refine V.iret d_Mo_told_26 rfl (Nat.le_of_ble_eq_true rfl) (Nat.le_of_ble_eq_true rfl) ?_
    first | exact hOk i h1i hi rfl | exact hE c_9
  · skip
    obtain ⟨i, h1i, hi, rfl⟩ := wi_nat1 (by decide) c_9
    refine V.aload_n d_Mo_told_12 rfl ?_
    refine V.get d_Mo_told_13 f_Mo_19_Mo mo_o rfl ?_
    refine V.iload_n d_Mo_told_16 rfl ?_
    refine V.mlda 3 (by decide) (by decide) d_Mo_told_17 (by first | omega | (show _ < 6; omega)) ?_
    refine V.goto (tgt := 26) d_Mo_told_18 (by decide) ?_
    refine V.iret d_Mo_told_26 rfl (Nat.le_of_ble_eq_true rfl) (Nat.le_of_ble_eq_true rfl) ?_
    first | exact hOk i h1i hi rfl | exact hE c_9
abbrev M_Mo_tell : MD := (⟨"FelledByNamesModel", "tell", "(I)I"⟩, prog_14_method_86_code, 2, (some .int), fun _ => True)
theorem d_Mo_tell_0 : decode prog_14_method_86_code 0 = .ok (.aload_n 0, 1) := by decide +kernel
theorem d_Mo_tell_1 : decode prog_14_method_86_code 1 = .ok (.getfield 7, 3) := by decide +kernel
theorem d_Mo_tell_4 : decode prog_14_method_86_code 4 = .ok (.bipush 7, 2) := by decide +kernel
theorem d_Mo_tell_6 : decode prog_14_method_86_code 6 = .ok (.iaload, 1) := by decide +kernel
theorem d_Mo_tell_7 : decode prog_14_method_86_code 7 = .ok (.bipush 20, 2) := by decide +kernel
theorem d_Mo_tell_9 : decode prog_14_method_86_code 9 = .ok (.if_icmp .ne 9, 3) := by decide +kernel
theorem d_Mo_tell_18 : decode prog_14_method_86_code 18 = .ok (.aload_n 0, 1) := by decide +kernel
theorem d_Mo_tell_19 : decode prog_14_method_86_code 19 = .ok (.getfield 7, 3) := by decide +kernel
theorem d_Mo_tell_22 : decode prog_14_method_86_code 22 = .ok (.bipush 108, 2) := by decide +kernel
theorem d_Mo_tell_24 : decode prog_14_method_86_code 24 = .ok (.aload_n 0, 1) := by decide +kernel
theorem d_Mo_tell_25 : decode prog_14_method_86_code 25 = .ok (.getfield 7, 3) := by decide +kernel
theorem d_Mo_tell_28 : decode prog_14_method_86_code 28 = .ok (.bipush 7, 2) := by decide +kernel
theorem d_Mo_tell_30 : decode prog_14_method_86_code 30 = .ok (.iaload, 1) := by decide +kernel
theorem d_Mo_tell_31 : decode prog_14_method_86_code 31 = .ok (.iadd, 1) := by decide +kernel
theorem d_Mo_tell_32 : decode prog_14_method_86_code 32 = .ok (.iload_n 1, 1) := by decide +kernel
theorem d_Mo_tell_33 : decode prog_14_method_86_code 33 = .ok (.iastore, 1) := by decide +kernel
theorem d_Mo_tell_34 : decode prog_14_method_86_code 34 = .ok (.aload_n 0, 1) := by decide +kernel
theorem d_Mo_tell_35 : decode prog_14_method_86_code 35 = .ok (.getfield 7, 3) := by decide +kernel
theorem d_Mo_tell_38 : decode prog_14_method_86_code 38 = .ok (.bipush 7, 2) := by decide +kernel
theorem d_Mo_tell_40 : decode prog_14_method_86_code 40 = .ok (.dup2, 1) := by decide +kernel
theorem d_Mo_tell_41 : decode prog_14_method_86_code 41 = .ok (.iaload, 1) := by decide +kernel
theorem d_Mo_tell_42 : decode prog_14_method_86_code 42 = .ok (.iconst 1, 1) := by decide +kernel
theorem d_Mo_tell_43 : decode prog_14_method_86_code 43 = .ok (.iadd, 1) := by decide +kernel
theorem d_Mo_tell_44 : decode prog_14_method_86_code 44 = .ok (.iastore, 1) := by decide +kernel
theorem d_Mo_tell_45 : decode prog_14_method_86_code 45 = .ok (.aload_n 0, 1) := by decide +kernel
theorem d_Mo_tell_46 : decode prog_14_method_86_code 46 = .ok (.getfield 7, 3) := by decide +kernel
theorem d_Mo_tell_49 : decode prog_14_method_86_code 49 = .ok (.bipush 7, 2) := by decide +kernel
theorem d_Mo_tell_51 : decode prog_14_method_86_code 51 = .ok (.iaload, 1) := by decide +kernel
theorem d_Mo_tell_52 : decode prog_14_method_86_code 52 = .ok (.ireturn, 1) := by decide +kernel
theorem d_Mo_tell_12 : decode prog_14_method_86_code 12 = .ok (.aload_n 0, 1) := by decide +kernel
theorem d_Mo_tell_13 : decode prog_14_method_86_code 13 = .ok (.iconst 4, 1) := by decide +kernel
theorem d_Mo_tell_14 : decode prog_14_method_86_code 14 = .ok (.invokevirtual 138, 3) := by decide +kernel
theorem d_Mo_tell_17 : decode prog_14_method_86_code 17 = .ok (.ireturn, 1) := by decide +kernel
set_option maxRecDepth 100000 in
theorem c_Mo_tell {w : Nat} {v : Int32} {l : Launch} {d q n : Nat} {D : Nat → Int32} {A : Nat → Nat → Int32} {S : Nat → Int32} {h0 : HP} {Q : QT} (hw : w ≤ 20) (ew : D 7 = nI w) (hF : w = 20 → Q (some (.int (-1000000000 - nI 4))) n (mo q D (uA A 3 (upd (A 3) 4 (A 3 4 + nI 1))) S h0)) (hOk : w < 20 → Q (some (.int (nI (w + 1)))) n (mo q (upd (upd D (108 + w) v) 7 (nI (w + 1))) A S h0)) : Ct l M_Mo_tell (d + 1) 0 0 [.ref q, .int v] n (mo q D A S h0) Q := by
  refine Ct.of (fun _ => trivial) (by decide) (Nat.le_of_ble_eq_true rfl) ?_
  refine V.aload_n d_Mo_tell_0 rfl ?_
  refine V.get d_Mo_tell_1 f_Mo_7_Mo mo_o rfl ?_
  refine V.bipush_ (nI 7) d_Mo_tell_4 (by decide +kernel) ?_
  refine V.mldd d_Mo_tell_6 (by omega) ?_
  refine V.top ew ?_
  refine V.bipush_ (nI 20) d_Mo_tell_7 (by decide +kernel) ?_
  refine V.neN (tgt := 18) d_Mo_tell_9 (by decide) (by omega) (by omega) (fun c_9 => ?_) (fun c_9 => ?_)
  · skip
    refine V.aload_n d_Mo_tell_18 rfl ?_
    refine V.get d_Mo_tell_19 f_Mo_7_Mo mo_o rfl ?_
    refine V.bipush_ (nI 108) d_Mo_tell_22 (by decide +kernel) ?_
    refine V.aload_n d_Mo_tell_24 rfl ?_
    refine V.get d_Mo_tell_25 f_Mo_7_Mo mo_o rfl ?_
    refine V.bipush_ (nI 7) d_Mo_tell_28 (by decide +kernel) ?_
    refine V.mldd d_Mo_tell_30 (by omega) ?_
    refine V.top ew ?_
    refine V.addN d_Mo_tell_31 ?_
    refine V.iload_n d_Mo_tell_32 rfl ?_
    refine V.mstd d_Mo_tell_33 (by omega) ?_
    refine V.aload_n d_Mo_tell_34 rfl ?_
    refine V.get d_Mo_tell_35 f_Mo_7_Mo mo_o rfl ?_
    refine V.bipush_ (nI 7) d_Mo_tell_38 (by decide +kernel) ?_
    refine V.dup2 rfl rfl d_Mo_tell_40 ?_
    refine V.mldd d_Mo_tell_41 (by omega) ?_
    refine V.top (show _ = nI w by rw [pk_un (by omega)]; exact ew) ?_
    refine V.iconst_ (nI 1) d_Mo_tell_42 (by decide +kernel) ?_
    refine V.addN d_Mo_tell_43 ?_
    refine V.mstd d_Mo_tell_44 (by omega) ?_
    refine V.aload_n d_Mo_tell_45 rfl ?_
    refine V.get d_Mo_tell_46 f_Mo_7_Mo mo_o rfl ?_
    refine V.bipush_ (nI 7) d_Mo_tell_49 (by decide +kernel) ?_
    refine V.mldd d_Mo_tell_51 (by omega) ?_
    refine V.top pk_us ?_
    refine V.iret d_Mo_tell_52 rfl (Nat.le_of_ble_eq_true rfl) (Nat.le_of_ble_eq_true rfl) ?_
    exact hOk (by omega)
  · skip
    refine V.aload_n d_Mo_tell_12 rfl ?_
    refine V.iconst_ (nI 4) d_Mo_tell_13 (by decide +kernel) ?_
    refine V.callV1 d_Mo_tell_14 k_Mo_138_Mo_finds_MoV mo_o (Nat.le_of_ble_eq_true rfl) (by omega) (by omega) (c_Mo_finds (by omega) ?_)
    refine V.iret d_Mo_tell_17 rfl (Nat.le_of_ble_eq_true rfl) (Nat.le_of_ble_eq_true rfl) ?_
    exact hF c_9
def smh (D : Nat → Int32) : Nat → Int32 := fun k => itr (fun k acc => acc + D (8 + k)) k (nI 0)
def cnt (D : Nat → Int32) (N : Nat) (tr : Int32) (w : Nat) : Int32 := if w < 5 then D w else if w = 5 then stb D N else if w = 6 then smh D 36 else if w = 7 then D 6 else if w = 8 then D 7 else if w = 9 then tr else D 5
abbrev M_Mo_count : MD := (⟨"FelledByNamesModel", "count", "(I)I"⟩, prog_14_method_88_code, 4, (some .int), fun _ => True)
theorem d_Mo_count_0 : decode prog_14_method_88_code 0 = .ok (.iconst 0, 1) := by decide +kernel
theorem d_Mo_count_1 : decode prog_14_method_88_code 1 = .ok (.istore_n 2, 1) := by decide +kernel
theorem d_Mo_count_2 : decode prog_14_method_88_code 2 = .ok (.iload_n 1, 1) := by decide +kernel
theorem d_Mo_count_3 : decode prog_14_method_88_code 3 = .ok (.tableswitch 125 0 10 #[57, 57, 57, 57, 57, 64, 69, 97, 105, 113, 118], 57) := by decide +kernel
theorem d_Mo_count_60 : decode prog_14_method_88_code 60 = .ok (.aload_n 0, 1) := by decide +kernel
theorem d_Mo_count_61 : decode prog_14_method_88_code 61 = .ok (.getfield 7, 3) := by decide +kernel
theorem d_Mo_count_64 : decode prog_14_method_88_code 64 = .ok (.iload_n 1, 1) := by decide +kernel
theorem d_Mo_count_65 : decode prog_14_method_88_code 65 = .ok (.iaload, 1) := by decide +kernel
theorem d_Mo_count_66 : decode prog_14_method_88_code 66 = .ok (.ireturn, 1) := by decide +kernel
theorem d_Mo_count_67 : decode prog_14_method_88_code 67 = .ok (.aload_n 0, 1) := by decide +kernel
theorem d_Mo_count_68 : decode prog_14_method_88_code 68 = .ok (.invokevirtual 234, 3) := by decide +kernel
theorem kB_Mo_standing : kB M_Mo_standing 0 := ⟨tm 15 (by decide +kernel) rfl, tm 1374 (by decide +kernel) rfl, ⟨by decide, by decide, by decide +kernel⟩, by decide⟩
theorem k_Mo_234_Mo_standing_MoV : kV "FelledByNamesModel" 234 5 M_Mo_standing 0 := ⟨kB_Mo_standing, tm 1371 (by decide +kernel) rfl, tm 1373 (by decide +kernel) rfl, tp 44 (by decide +kernel) rfl, _, rfl, rfl⟩
theorem d_Mo_count_71 : decode prog_14_method_88_code 71 = .ok (.ireturn, 1) := by decide +kernel
theorem d_Mo_count_72 : decode prog_14_method_88_code 72 = .ok (.iconst 0, 1) := by decide +kernel
theorem d_Mo_count_73 : decode prog_14_method_88_code 73 = .ok (.istore_n 3, 1) := by decide +kernel
theorem d_Mo_count_74 : decode prog_14_method_88_code 74 = .ok (.iload_n 3, 1) := by decide +kernel
theorem d_Mo_count_75 : decode prog_14_method_88_code 75 = .ok (.bipush 36, 2) := by decide +kernel
theorem d_Mo_count_77 : decode prog_14_method_88_code 77 = .ok (.if_icmp .ge 21, 3) := by decide +kernel
theorem d_Mo_count_98 : decode prog_14_method_88_code 98 = .ok (.iload_n 2, 1) := by decide +kernel
theorem d_Mo_count_99 : decode prog_14_method_88_code 99 = .ok (.ireturn, 1) := by decide +kernel
theorem d_Mo_count_80 : decode prog_14_method_88_code 80 = .ok (.iload_n 2, 1) := by decide +kernel
theorem d_Mo_count_81 : decode prog_14_method_88_code 81 = .ok (.aload_n 0, 1) := by decide +kernel
theorem d_Mo_count_82 : decode prog_14_method_88_code 82 = .ok (.getfield 7, 3) := by decide +kernel
theorem d_Mo_count_85 : decode prog_14_method_88_code 85 = .ok (.bipush 8, 2) := by decide +kernel
theorem d_Mo_count_87 : decode prog_14_method_88_code 87 = .ok (.iload_n 3, 1) := by decide +kernel
theorem d_Mo_count_88 : decode prog_14_method_88_code 88 = .ok (.iadd, 1) := by decide +kernel
theorem d_Mo_count_89 : decode prog_14_method_88_code 89 = .ok (.iaload, 1) := by decide +kernel
theorem d_Mo_count_90 : decode prog_14_method_88_code 90 = .ok (.iadd, 1) := by decide +kernel
theorem d_Mo_count_91 : decode prog_14_method_88_code 91 = .ok (.istore_n 2, 1) := by decide +kernel
theorem d_Mo_count_92 : decode prog_14_method_88_code 92 = .ok (.iinc 3 1, 3) := by decide +kernel
theorem d_Mo_count_95 : decode prog_14_method_88_code 95 = .ok (.goto (-21), 3) := by decide +kernel
theorem d_Mo_count_100 : decode prog_14_method_88_code 100 = .ok (.aload_n 0, 1) := by decide +kernel
theorem d_Mo_count_101 : decode prog_14_method_88_code 101 = .ok (.getfield 7, 3) := by decide +kernel
theorem d_Mo_count_104 : decode prog_14_method_88_code 104 = .ok (.bipush 6, 2) := by decide +kernel
theorem d_Mo_count_106 : decode prog_14_method_88_code 106 = .ok (.iaload, 1) := by decide +kernel
theorem d_Mo_count_107 : decode prog_14_method_88_code 107 = .ok (.ireturn, 1) := by decide +kernel
theorem d_Mo_count_108 : decode prog_14_method_88_code 108 = .ok (.aload_n 0, 1) := by decide +kernel
theorem d_Mo_count_109 : decode prog_14_method_88_code 109 = .ok (.getfield 7, 3) := by decide +kernel
theorem d_Mo_count_112 : decode prog_14_method_88_code 112 = .ok (.bipush 7, 2) := by decide +kernel
theorem d_Mo_count_114 : decode prog_14_method_88_code 114 = .ok (.iaload, 1) := by decide +kernel
theorem d_Mo_count_115 : decode prog_14_method_88_code 115 = .ok (.ireturn, 1) := by decide +kernel
theorem d_Mo_count_116 : decode prog_14_method_88_code 116 = .ok (.aload_n 0, 1) := by decide +kernel
theorem d_Mo_count_117 : decode prog_14_method_88_code 117 = .ok (.getfield 251, 3) := by decide +kernel
theorem d_Mo_count_120 : decode prog_14_method_88_code 120 = .ok (.ireturn, 1) := by decide +kernel
theorem d_Mo_count_121 : decode prog_14_method_88_code 121 = .ok (.aload_n 0, 1) := by decide +kernel
theorem d_Mo_count_122 : decode prog_14_method_88_code 122 = .ok (.getfield 7, 3) := by decide +kernel
theorem d_Mo_count_125 : decode prog_14_method_88_code 125 = .ok (.iconst 5, 1) := by decide +kernel
theorem d_Mo_count_126 : decode prog_14_method_88_code 126 = .ok (.iaload, 1) := by decide +kernel
theorem d_Mo_count_127 : decode prog_14_method_88_code 127 = .ok (.ireturn, 1) := by decide +kernel
theorem d_Mo_count_128 : decode prog_14_method_88_code 128 = .ok (.aload_n 0, 1) := by decide +kernel
theorem d_Mo_count_129 : decode prog_14_method_88_code 129 = .ok (.iconst 1, 1) := by decide +kernel
theorem d_Mo_count_130 : decode prog_14_method_88_code 130 = .ok (.invokevirtual 138, 3) := by decide +kernel
theorem d_Mo_count_133 : decode prog_14_method_88_code 133 = .ok (.ireturn, 1) := by decide +kernel
set_option maxRecDepth 100000 in
theorem c_Mo_count {N : Nat} {x : Int32} {l : Launch} {d q n : Nat} {D : Nat → Int32} {A : Nat → Nat → Int32} {S : Nat → Int32} {h0 : HP} {Q : QT} (hN : N ≤ 8) (e0 : D 0 = nI N) (hE : wi x (nI 0) (nI 10) = false → Q (some (.int (-1000000000 - nI 1))) n (mo q D (uA A 3 (upd (A 3) 1 (A 3 1 + nI 1))) S h0)) (hOk : ∀ w, w ≤ 10 → x = nI w → Q (some (.int (cnt D N (S 20) w))) n (mo q D A S h0)) : Ct l M_Mo_count (d + 2) 0 0 [.ref q, .int x] n (mo q D A S h0) Q := by
  refine Ct.of (fun _ => trivial) (by decide) (Nat.le_of_ble_eq_true rfl) ?_
  refine V.iconst_ (nI 0) d_Mo_count_0 (by decide +kernel) ?_
  refine V.istore_n d_Mo_count_1 (by decide) ?_
  refine V.iload_n d_Mo_count_2 rfl ?_
  by_cases hx : wi x (nI 0) (nI 10) = true
  · obtain ⟨w, hw, rfl⟩ := wi_nat (by decide) hx
    rcases (show w = 0 ∨ w = 1 ∨ w = 2 ∨ w = 3 ∨ w = 4 ∨ w = 5 ∨ w = 6 ∨ w = 7 ∨ w = 8 ∨ w = 9 ∨ w = 10 by omega) with rfl | rfl | rfl | rfl | rfl | rfl | rfl | rfl | rfl | rfl | rfl
    · skip
      refine V.tabIn (tgt := 60) (off := 57) d_Mo_count_3 (by decide +kernel) (by decide +kernel) (by decide +kernel) (by decide) ?_
      refine V.aload_n d_Mo_count_60 rfl ?_
      refine V.get d_Mo_count_61 f_Mo_7_Mo mo_o rfl ?_
      refine V.iload_n d_Mo_count_64 rfl ?_
      refine V.mldd d_Mo_count_65 (by omega) ?_
      refine V.iret d_Mo_count_66 rfl (Nat.le_of_ble_eq_true rfl) (Nat.le_of_ble_eq_true rfl) ?_
      exact hOk 0 (by omega) rfl
    · skip
      refine V.tabIn (tgt := 60) (off := 57) d_Mo_count_3 (by decide +kernel) (by decide +kernel) (by decide +kernel) (by decide) ?_
      refine V.aload_n d_Mo_count_60 rfl ?_
      refine V.get d_Mo_count_61 f_Mo_7_Mo mo_o rfl ?_
      refine V.iload_n d_Mo_count_64 rfl ?_
      refine V.mldd d_Mo_count_65 (by omega) ?_
      refine V.iret d_Mo_count_66 rfl (Nat.le_of_ble_eq_true rfl) (Nat.le_of_ble_eq_true rfl) ?_
      exact hOk 1 (by omega) rfl
    · skip
      refine V.tabIn (tgt := 60) (off := 57) d_Mo_count_3 (by decide +kernel) (by decide +kernel) (by decide +kernel) (by decide) ?_
      refine V.aload_n d_Mo_count_60 rfl ?_
      refine V.get d_Mo_count_61 f_Mo_7_Mo mo_o rfl ?_
      refine V.iload_n d_Mo_count_64 rfl ?_
      refine V.mldd d_Mo_count_65 (by omega) ?_
      refine V.iret d_Mo_count_66 rfl (Nat.le_of_ble_eq_true rfl) (Nat.le_of_ble_eq_true rfl) ?_
      exact hOk 2 (by omega) rfl
    · skip
      refine V.tabIn (tgt := 60) (off := 57) d_Mo_count_3 (by decide +kernel) (by decide +kernel) (by decide +kernel) (by decide) ?_
      refine V.aload_n d_Mo_count_60 rfl ?_
      refine V.get d_Mo_count_61 f_Mo_7_Mo mo_o rfl ?_
      refine V.iload_n d_Mo_count_64 rfl ?_
      refine V.mldd d_Mo_count_65 (by omega) ?_
      refine V.iret d_Mo_count_66 rfl (Nat.le_of_ble_eq_true rfl) (Nat.le_of_ble_eq_true rfl) ?_
      exact hOk 3 (by omega) rfl
    · skip
      refine V.tabIn (tgt := 60) (off := 57) d_Mo_count_3 (by decide +kernel) (by decide +kernel) (by decide +kernel) (by decide) ?_
      refine V.aload_n d_Mo_count_60 rfl ?_
      refine V.get d_Mo_count_61 f_Mo_7_Mo mo_o rfl ?_
      refine V.iload_n d_Mo_count_64 rfl ?_
      refine V.mldd d_Mo_count_65 (by omega) ?_
      refine V.iret d_Mo_count_66 rfl (Nat.le_of_ble_eq_true rfl) (Nat.le_of_ble_eq_true rfl) ?_
      exact hOk 4 (by omega) rfl
    · skip
      refine V.tabIn (tgt := 67) (off := 64) d_Mo_count_3 (by decide +kernel) (by decide +kernel) (by decide +kernel) (by decide) ?_
      refine V.aload_n d_Mo_count_67 rfl ?_
      refine V.callV0 d_Mo_count_68 k_Mo_234_Mo_standing_MoV mo_o (Nat.le_of_ble_eq_true rfl) (by omega) (by omega) (c_Mo_standing hN e0 ?_)
      refine V.iret d_Mo_count_71 rfl (Nat.le_of_ble_eq_true rfl) (Nat.le_of_ble_eq_true rfl) ?_
      exact hOk 5 (by omega) rfl
    · skip
      refine V.tabIn (tgt := 72) (off := 69) d_Mo_count_3 (by decide +kernel) (by decide +kernel) (by decide +kernel) (by decide) ?_
      refine V.iconst_ (nI 0) d_Mo_count_72 (by decide +kernel) ?_
      refine V.istore_n d_Mo_count_73 (by decide) ?_
      refine V.lc (ls' := [(0, .ref q), (2, .int (smh D 0)), (3, .int (nI 0))]) rfl ?_
      refine up_to (G := fun k => V l M_Mo_count (d + 2) 0 0 74 [(0, .ref q), (2, .int (smh D k)), (3, .int (nI k))] [] n (mo q D A S h0) 0 0 Q) (36) ?_ (fun k hk hn => ?_) 0 (by omega)
      · skip
        refine V.iload_n d_Mo_count_74 rfl ?_
        refine V.bipush_ (nI 36) d_Mo_count_75 (by decide +kernel) ?_
        refine V.geN (tgt := 98) d_Mo_count_77 (by decide) (by omega) (by omega) (fun c_77 => ?_) (fun c_77 => ?_)
        · skip
          refine V.iload_n d_Mo_count_98 rfl ?_
          refine V.iret d_Mo_count_99 rfl (Nat.le_of_ble_eq_true rfl) (Nat.le_of_ble_eq_true rfl) ?_
          exact hOk 6 (by omega) rfl
        · skip
          exact absurd c_77 (by omega)
      · skip
        refine V.iload_n d_Mo_count_74 rfl ?_
        refine V.bipush_ (nI 36) d_Mo_count_75 (by decide +kernel) ?_
        refine V.geN (tgt := 98) d_Mo_count_77 (by decide) (by omega) (by omega) (fun c_77 => ?_) (fun c_77 => ?_)
        · skip
          exact absurd c_77 (by omega)
        · skip
          refine V.iload_n d_Mo_count_80 rfl ?_
          refine V.aload_n d_Mo_count_81 rfl ?_
          refine V.get d_Mo_count_82 f_Mo_7_Mo mo_o rfl ?_
          refine V.bipush_ (nI 8) d_Mo_count_85 (by decide +kernel) ?_
          refine V.iload_n d_Mo_count_87 rfl ?_
          refine V.addN d_Mo_count_88 ?_
          refine V.mldd d_Mo_count_89 (by omega) ?_
          refine V.iadd d_Mo_count_90 ?_
          refine V.istore_n d_Mo_count_91 (by decide) ?_
          refine V.incN d_Mo_count_92 rfl (by decide) ?_
          refine V.goto (tgt := 74) d_Mo_count_95 (by decide) ?_
          exact V.lc rfl hn
    · skip
      refine V.tabIn (tgt := 100) (off := 97) d_Mo_count_3 (by decide +kernel) (by decide +kernel) (by decide +kernel) (by decide) ?_
      refine V.aload_n d_Mo_count_100 rfl ?_
      refine V.get d_Mo_count_101 f_Mo_7_Mo mo_o rfl ?_
      refine V.bipush_ (nI 6) d_Mo_count_104 (by decide +kernel) ?_
      refine V.mldd d_Mo_count_106 (by omega) ?_
      refine V.iret d_Mo_count_107 rfl (Nat.le_of_ble_eq_true rfl) (Nat.le_of_ble_eq_true rfl) ?_
      exact hOk 7 (by omega) rfl
    · skip
      refine V.tabIn (tgt := 108) (off := 105) d_Mo_count_3 (by decide +kernel) (by decide +kernel) (by decide +kernel) (by decide) ?_
      refine V.aload_n d_Mo_count_108 rfl ?_
      refine V.get d_Mo_count_109 f_Mo_7_Mo mo_o rfl ?_
      refine V.bipush_ (nI 7) d_Mo_count_112 (by decide +kernel) ?_
      refine V.mldd d_Mo_count_114 (by omega) ?_
      refine V.iret d_Mo_count_115 rfl (Nat.le_of_ble_eq_true rfl) (Nat.le_of_ble_eq_true rfl) ?_
      exact hOk 8 (by omega) rfl
    · skip
      refine V.tabIn (tgt := 116) (off := 113) d_Mo_count_3 (by decide +kernel) (by decide +kernel) (by decide +kernel) (by decide) ?_
      refine V.aload_n d_Mo_count_116 rfl ?_
      refine V.get d_Mo_count_117 f_Mo_251_Mo mo_o rfl ?_
      refine V.iret d_Mo_count_120 rfl (Nat.le_of_ble_eq_true rfl) (Nat.le_of_ble_eq_true rfl) ?_
      exact hOk 9 (by omega) rfl
    · skip
      refine V.tabIn (tgt := 121) (off := 118) d_Mo_count_3 (by decide +kernel) (by decide +kernel) (by decide +kernel) (by decide) ?_
      refine V.aload_n d_Mo_count_121 rfl ?_
      refine V.get d_Mo_count_122 f_Mo_7_Mo mo_o rfl ?_
      refine V.iconst_ (nI 5) d_Mo_count_125 (by decide +kernel) ?_
      refine V.mldd d_Mo_count_126 (by omega) ?_
      refine V.iret d_Mo_count_127 rfl (Nat.le_of_ble_eq_true rfl) (Nat.le_of_ble_eq_true rfl) ?_
      exact hOk 10 (by omega) rfl
  · have hx := Bool.not_eq_true _ |>.mp hx
    refine V.tabOut (tgt := 128) d_Mo_count_3 (wi_out (by decide) hx) (by decide) ?_
    refine V.aload_n d_Mo_count_128 rfl ?_
    refine V.iconst_ (nI 1) d_Mo_count_129 (by decide +kernel) ?_
    refine V.callV1 d_Mo_count_130 k_Mo_138_Mo_finds_MoV mo_o (Nat.le_of_ble_eq_true rfl) (by omega) (by omega) (c_Mo_finds (by omega) ?_)
    refine V.iret d_Mo_count_133 rfl (Nat.le_of_ble_eq_true rfl) (Nat.le_of_ble_eq_true rfl) ?_
    exact hE hx
abbrev M_Mo_image : MD := (⟨"FelledByNamesModel", "image", "()I"⟩, prog_14_method_84_code, 2, (some .int), fun _ => True)
theorem d_Mo_image_0 : decode prog_14_method_84_code 0 = .ok (.iconst 0, 1) := by decide +kernel
theorem d_Mo_image_1 : decode prog_14_method_84_code 1 = .ok (.istore_n 1, 1) := by decide +kernel
theorem d_Mo_image_2 : decode prog_14_method_84_code 2 = .ok (.iload_n 1, 1) := by decide +kernel
theorem d_Mo_image_3 : decode prog_14_method_84_code 3 = .ok (.sipush 278, 3) := by decide +kernel
theorem d_Mo_image_6 : decode prog_14_method_84_code 6 = .ok (.if_icmp .ge 21, 3) := by decide +kernel
theorem d_Mo_image_27 : decode prog_14_method_84_code 27 = .ok (.aload_n 0, 1) := by decide +kernel
theorem d_Mo_image_28 : decode prog_14_method_84_code 28 = .ok (.dup, 1) := by decide +kernel
theorem d_Mo_image_29 : decode prog_14_method_84_code 29 = .ok (.getfield 274, 3) := by decide +kernel
theorem f_Mo_274_Mo : fok "FelledByNamesModel" 274 5 3 := ⟨R_Mo, F_Mo, 26, "FelledByNamesModel", rfl, i_Mo, by decide, tm 1062 (by decide +kernel) rfl, Or.inl rfl, t_Mo, t_Mo_ok, n_Mo⟩
theorem d_Mo_image_32 : decode prog_14_method_84_code 32 = .ok (.iconst 1, 1) := by decide +kernel
theorem d_Mo_image_33 : decode prog_14_method_84_code 33 = .ok (.iadd, 1) := by decide +kernel
theorem d_Mo_image_34 : decode prog_14_method_84_code 34 = .ok (.putfield 274, 3) := by decide +kernel
theorem fp_Mo_3 : fpk 5 3 (.int) := ⟨_, _, _, rfl, rfl, by decide +kernel⟩
theorem d_Mo_image_37 : decode prog_14_method_84_code 37 = .ok (.aload_n 0, 1) := by decide +kernel
theorem d_Mo_image_38 : decode prog_14_method_84_code 38 = .ok (.getfield 274, 3) := by decide +kernel
theorem d_Mo_image_41 : decode prog_14_method_84_code 41 = .ok (.ireturn, 1) := by decide +kernel
theorem d_Mo_image_9 : decode prog_14_method_84_code 9 = .ok (.aload_n 0, 1) := by decide +kernel
theorem d_Mo_image_10 : decode prog_14_method_84_code 10 = .ok (.getfield 13, 3) := by decide +kernel
theorem f_Mo_13_Mo : fok "FelledByNamesModel" 13 5 1 := ⟨R_Mo, F_Mo, 26, "FelledByNamesModel", rfl, i_Mo, by decide, tm 1060 (by decide +kernel) rfl, Or.inl rfl, t_Mo, t_Mo_ok, n_Mo⟩
theorem d_Mo_image_13 : decode prog_14_method_84_code 13 = .ok (.iload_n 1, 1) := by decide +kernel
theorem d_Mo_image_14 : decode prog_14_method_84_code 14 = .ok (.aload_n 0, 1) := by decide +kernel
theorem d_Mo_image_15 : decode prog_14_method_84_code 15 = .ok (.getfield 7, 3) := by decide +kernel
theorem d_Mo_image_18 : decode prog_14_method_84_code 18 = .ok (.iload_n 1, 1) := by decide +kernel
theorem d_Mo_image_19 : decode prog_14_method_84_code 19 = .ok (.iaload, 1) := by decide +kernel
theorem d_Mo_image_20 : decode prog_14_method_84_code 20 = .ok (.iastore, 1) := by decide +kernel
theorem d_Mo_image_21 : decode prog_14_method_84_code 21 = .ok (.iinc 1 1, 3) := by decide +kernel
theorem d_Mo_image_24 : decode prog_14_method_84_code 24 = .ok (.goto (-22), 3) := by decide +kernel
set_option maxRecDepth 100000 in
theorem c_Mo_image  {l : Launch} {d q n : Nat} {D : Nat → Int32} {A : Nat → Nat → Int32} {S : Nat → Int32} {h0 : HP} {Q : QT} (hQ : Q (some (.int (S 3 + nI 1))) n (mo q D (uA A 1 (cpN 278 D (A 1))) (uS S 3 (S 3 + nI 1)) h0)) : Ct l M_Mo_image d 0 0 [.ref q] n (mo q D A S h0) Q := by
  refine Ct.of (fun _ => trivial) (by decide) (Nat.le_of_ble_eq_true rfl) ?_
  refine V.iconst_ (nI 0) d_Mo_image_0 (by decide +kernel) ?_
  refine V.istore_n d_Mo_image_1 (by decide) ?_
  refine V.lc (ls' := [(0, .ref q), (1, .int (nI 0))]) rfl ?_
  refine V.eqH (h' := mo q D (uA A 1 (cpN 0 D (A 1))) S h0) (by rw [cpN_0, uA_id]) ?_
  refine up_to (G := fun k => V l M_Mo_image d 0 0 2 [(0, .ref q), (1, .int (nI k))] [] n (mo q D (uA A 1 (cpN k D (A 1))) S h0) 0 0 Q) (278) ?_ (fun k hk hn => ?_) 0 (by omega)
  · skip
    refine V.iload_n d_Mo_image_2 rfl ?_
    refine V.sipush_ (nI 278) d_Mo_image_3 (by decide +kernel) ?_
    refine V.geN (tgt := 27) d_Mo_image_6 (by decide) (by omega) (by omega) (fun c_6 => ?_) (fun c_6 => ?_)
    · skip
      refine V.aload_n d_Mo_image_27 rfl ?_
      refine V.dup rfl d_Mo_image_28 ?_
      refine V.get d_Mo_image_29 f_Mo_274_Mo mo_o rfl ?_
      refine V.iconst_ (nI 1) d_Mo_image_32 (by decide +kernel) ?_
      refine V.iadd d_Mo_image_33 ?_
      refine V.mput d_Mo_image_34 f_Mo_274_Mo fp_Mo_3 rfl (by decide) ?_
      refine V.aload_n d_Mo_image_37 rfl ?_
      refine V.get d_Mo_image_38 f_Mo_274_Mo mo_o rfl ?_
      refine V.iret d_Mo_image_41 rfl (Nat.le_of_ble_eq_true rfl) (Nat.le_of_ble_eq_true rfl) ?_
      exact hQ
    · skip
      exact absurd c_6 (by omega)
  · skip
    rw [← cpN_s] at hn
    refine V.iload_n d_Mo_image_2 rfl ?_
    refine V.sipush_ (nI 278) d_Mo_image_3 (by decide +kernel) ?_
    refine V.geN (tgt := 27) d_Mo_image_6 (by decide) (by omega) (by omega) (fun c_6 => ?_) (fun c_6 => ?_)
    · skip
      exact absurd c_6 (by omega)
    · skip
      refine V.aload_n d_Mo_image_9 rfl ?_
      refine V.get d_Mo_image_10 f_Mo_13_Mo mo_o rfl ?_
      refine V.iload_n d_Mo_image_13 rfl ?_
      refine V.aload_n d_Mo_image_14 rfl ?_
      refine V.get d_Mo_image_15 f_Mo_7_Mo mo_o rfl ?_
      refine V.iload_n d_Mo_image_18 rfl ?_
      refine V.mldd d_Mo_image_19 (by omega) ?_
      refine V.msta 1 (by decide) (by decide) d_Mo_image_20 (by first | omega | (show _ < 278; omega)) ?_
      refine V.incN d_Mo_image_21 rfl (by decide) ?_
      refine V.goto (tgt := 2) d_Mo_image_24 (by decide) ?_
      try simp only [uA_uu, uA_s]
      exact V.lc rfl hn
abbrev M_Mo_restore : MD := (⟨"FelledByNamesModel", "restore", "()I"⟩, prog_14_method_85_code, 2, (some .int), fun _ => True)
theorem d_Mo_restore_0 : decode prog_14_method_85_code 0 = .ok (.aload_n 0, 1) := by decide +kernel
theorem d_Mo_restore_1 : decode prog_14_method_85_code 1 = .ok (.getfield 274, 3) := by decide +kernel
theorem d_Mo_restore_4 : decode prog_14_method_85_code 4 = .ok (.ifCond .ne 9, 3) := by decide +kernel
theorem d_Mo_restore_13 : decode prog_14_method_85_code 13 = .ok (.iconst 0, 1) := by decide +kernel
theorem d_Mo_restore_14 : decode prog_14_method_85_code 14 = .ok (.istore_n 1, 1) := by decide +kernel
theorem d_Mo_restore_15 : decode prog_14_method_85_code 15 = .ok (.iload_n 1, 1) := by decide +kernel
theorem d_Mo_restore_16 : decode prog_14_method_85_code 16 = .ok (.sipush 278, 3) := by decide +kernel
theorem d_Mo_restore_19 : decode prog_14_method_85_code 19 = .ok (.if_icmp .ge 21, 3) := by decide +kernel
theorem d_Mo_restore_40 : decode prog_14_method_85_code 40 = .ok (.aload_n 0, 1) := by decide +kernel
theorem d_Mo_restore_41 : decode prog_14_method_85_code 41 = .ok (.getfield 7, 3) := by decide +kernel
theorem d_Mo_restore_44 : decode prog_14_method_85_code 44 = .ok (.iconst 1, 1) := by decide +kernel
theorem d_Mo_restore_45 : decode prog_14_method_85_code 45 = .ok (.iaload, 1) := by decide +kernel
theorem d_Mo_restore_46 : decode prog_14_method_85_code 46 = .ok (.ireturn, 1) := by decide +kernel
theorem d_Mo_restore_22 : decode prog_14_method_85_code 22 = .ok (.aload_n 0, 1) := by decide +kernel
theorem d_Mo_restore_23 : decode prog_14_method_85_code 23 = .ok (.getfield 7, 3) := by decide +kernel
theorem d_Mo_restore_26 : decode prog_14_method_85_code 26 = .ok (.iload_n 1, 1) := by decide +kernel
theorem d_Mo_restore_27 : decode prog_14_method_85_code 27 = .ok (.aload_n 0, 1) := by decide +kernel
theorem d_Mo_restore_28 : decode prog_14_method_85_code 28 = .ok (.getfield 13, 3) := by decide +kernel
theorem d_Mo_restore_31 : decode prog_14_method_85_code 31 = .ok (.iload_n 1, 1) := by decide +kernel
theorem d_Mo_restore_32 : decode prog_14_method_85_code 32 = .ok (.iaload, 1) := by decide +kernel
theorem d_Mo_restore_33 : decode prog_14_method_85_code 33 = .ok (.iastore, 1) := by decide +kernel
theorem d_Mo_restore_34 : decode prog_14_method_85_code 34 = .ok (.iinc 1 1, 3) := by decide +kernel
theorem d_Mo_restore_37 : decode prog_14_method_85_code 37 = .ok (.goto (-22), 3) := by decide +kernel
theorem d_Mo_restore_7 : decode prog_14_method_85_code 7 = .ok (.aload_n 0, 1) := by decide +kernel
theorem d_Mo_restore_8 : decode prog_14_method_85_code 8 = .ok (.iconst 2, 1) := by decide +kernel
theorem d_Mo_restore_9 : decode prog_14_method_85_code 9 = .ok (.invokevirtual 138, 3) := by decide +kernel
theorem d_Mo_restore_12 : decode prog_14_method_85_code 12 = .ok (.ireturn, 1) := by decide +kernel
set_option maxRecDepth 100000 in
theorem c_Mo_restore  {l : Launch} {d q n : Nat} {D : Nat → Int32} {A : Nat → Nat → Int32} {S : Nat → Int32} {h0 : HP} {Q : QT} (hE : S 3 = 0 → Q (some (.int (-1000000000 - nI 2))) n (mo q D (uA A 3 (upd (A 3) 2 (A 3 2 + nI 1))) S h0)) (hOk : ¬ S 3 = 0 → Q (some (.int (A 1 1))) n (mo q (cpN 278 (A 1) D) A S h0)) : Ct l M_Mo_restore (d + 1) 0 0 [.ref q] n (mo q D A S h0) Q := by
  refine Ct.of (fun _ => trivial) (by decide) (Nat.le_of_ble_eq_true rfl) ?_
  refine V.aload_n d_Mo_restore_0 rfl ?_
  refine V.get d_Mo_restore_1 f_Mo_274_Mo mo_o rfl ?_
  refine V.if_ne (tgt := 13) d_Mo_restore_4 (by decide) (fun c_4 => ?_) (fun c_4 => ?_)
  · skip
    refine V.iconst_ (nI 0) d_Mo_restore_13 (by decide +kernel) ?_
    refine V.istore_n d_Mo_restore_14 (by decide) ?_
    refine V.lc (ls' := [(0, .ref q), (1, .int (nI 0))]) rfl ?_
    refine V.eqH (h' := mo q (cpN 0 (A 1) D) A S h0) (by rw [cpN_0]) ?_
    refine up_to (G := fun k => V l M_Mo_restore (d + 1) 0 0 15 [(0, .ref q), (1, .int (nI k))] [] n (mo q (cpN k (A 1) D) A S h0) 0 0 Q) (278) ?_ (fun k hk hn => ?_) 0 (by omega)
    · skip
      refine V.iload_n d_Mo_restore_15 rfl ?_
      refine V.sipush_ (nI 278) d_Mo_restore_16 (by decide +kernel) ?_
      refine V.geN (tgt := 40) d_Mo_restore_19 (by decide) (by omega) (by omega) (fun c_19 => ?_) (fun c_19 => ?_)
      · skip
        refine V.aload_n d_Mo_restore_40 rfl ?_
        refine V.get d_Mo_restore_41 f_Mo_7_Mo mo_o rfl ?_
        refine V.iconst_ (nI 1) d_Mo_restore_44 (by decide +kernel) ?_
        refine V.mldd d_Mo_restore_45 (by omega) ?_
        refine V.iret d_Mo_restore_46 rfl (Nat.le_of_ble_eq_true rfl) (Nat.le_of_ble_eq_true rfl) ?_
        exact hOk c_4
      · skip
        exact absurd c_19 (by omega)
    · skip
      rw [← cpN_s] at hn
      refine V.iload_n d_Mo_restore_15 rfl ?_
      refine V.sipush_ (nI 278) d_Mo_restore_16 (by decide +kernel) ?_
      refine V.geN (tgt := 40) d_Mo_restore_19 (by decide) (by omega) (by omega) (fun c_19 => ?_) (fun c_19 => ?_)
      · skip
        exact absurd c_19 (by omega)
      · skip
        refine V.aload_n d_Mo_restore_22 rfl ?_
        refine V.get d_Mo_restore_23 f_Mo_7_Mo mo_o rfl ?_
        refine V.iload_n d_Mo_restore_26 rfl ?_
        refine V.aload_n d_Mo_restore_27 rfl ?_
        refine V.get d_Mo_restore_28 f_Mo_13_Mo mo_o rfl ?_
        refine V.iload_n d_Mo_restore_31 rfl ?_
        refine V.mlda 1 (by decide) (by decide) d_Mo_restore_32 (by first | omega | (show _ < 278; omega)) ?_
        refine V.mstd d_Mo_restore_33 (by omega) ?_
        refine V.incN d_Mo_restore_34 rfl (by decide) ?_
        refine V.goto (tgt := 15) d_Mo_restore_37 (by decide) ?_
        exact V.lc rfl hn
  · skip
    refine V.aload_n d_Mo_restore_7 rfl ?_
    refine V.iconst_ (nI 2) d_Mo_restore_8 (by decide +kernel) ?_
    refine V.callV1 d_Mo_restore_9 k_Mo_138_Mo_finds_MoV mo_o (Nat.le_of_ble_eq_true rfl) (by omega) (by omega) (c_Mo_finds (by omega) ?_)
    refine V.iret d_Mo_restore_12 rfl (Nat.le_of_ble_eq_true rfl) (Nat.le_of_ble_eq_true rfl) ?_
    exact hE c_4
