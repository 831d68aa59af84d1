theorem k_F_173_Tree_takeFrom_TreeU : kU "FelledByNames" 173 6 "FelledByNames$Tree" ⟨"FelledByNames$Tree", "takeFrom", "(LFelledByNames$Tree;)V"⟩ M_Tree_takeFrom 1 := ⟨kB_Tree_takeFrom, tm 660 (by decide +kernel) rfl, tm 663 (by decide +kernel) rfl, ⟨by decide, by decide⟩, tm 661 (by decide +kernel) rfl, ⟨prog_10_method_2_code, 2, none, tm 670 (by decide +kernel) rfl⟩, by decide +kernel, tm 661 (by decide +kernel) rfl, _, rfl, tm 662 (by decide +kernel) rfl⟩
theorem k_F_173_Tree_takeFrom_BeechU : kU "FelledByNames" 173 7 "FelledByNames$Tree" ⟨"FelledByNames$Tree", "takeFrom", "(LFelledByNames$Tree;)V"⟩ M_Tree_takeFrom 1 := ⟨kB_Tree_takeFrom, tm 660 (by decide +kernel) rfl, tm 663 (by decide +kernel) rfl, ⟨by decide, by decide⟩, tm 661 (by decide +kernel) rfl, ⟨prog_10_method_2_code, 2, none, tm 670 (by decide +kernel) rfl⟩, by decide +kernel, tm 661 (by decide +kernel) rfl, _, rfl, tm 664 (by decide +kernel) rfl⟩
theorem k_F_173_Tree_takeFrom_OakU : kU "FelledByNames" 173 8 "FelledByNames$Tree" ⟨"FelledByNames$Tree", "takeFrom", "(LFelledByNames$Tree;)V"⟩ M_Tree_takeFrom 1 := ⟨kB_Tree_takeFrom, tm 660 (by decide +kernel) rfl, tm 663 (by decide +kernel) rfl, ⟨by decide, by decide⟩, tm 661 (by decide +kernel) rfl, ⟨prog_10_method_2_code, 2, none, tm 670 (by decide +kernel) rfl⟩, by decide +kernel, tm 661 (by decide +kernel) rfl, _, rfl, tm 667 (by decide +kernel) rfl⟩
theorem k_F_173_Tree_takeFrom_SaplingU : kU "FelledByNames" 173 9 "FelledByNames$Tree" ⟨"FelledByNames$Tree", "takeFrom", "(LFelledByNames$Tree;)V"⟩ M_Tree_takeFrom 1 := ⟨kB_Tree_takeFrom, tm 660 (by decide +kernel) rfl, tm 663 (by decide +kernel) rfl, ⟨by decide, by decide⟩, tm 661 (by decide +kernel) rfl, ⟨prog_10_method_2_code, 2, none, tm 670 (by decide +kernel) rfl⟩, by decide +kernel, tm 661 (by decide +kernel) rfl, _, rfl, tm 668 (by decide +kernel) rfl⟩
theorem k_F_173_Tree_takeFrom_WedgedU : kU "FelledByNames" 173 10 "FelledByNames$Tree" ⟨"FelledByNames$Tree", "takeFrom", "(LFelledByNames$Tree;)V"⟩ M_Tree_takeFrom 1 := ⟨kB_Tree_takeFrom, tm 660 (by decide +kernel) rfl, tm 663 (by decide +kernel) rfl, ⟨by decide, by decide⟩, tm 661 (by decide +kernel) rfl, ⟨prog_10_method_2_code, 2, none, tm 670 (by decide +kernel) rfl⟩, by decide +kernel, tm 661 (by decide +kernel) rfl, _, rfl, tm 669 (by decide +kernel) rfl⟩
theorem k_F_173_Tree_takeFrom_HollowU : kU "FelledByNames" 173 11 "FelledByNames$Tree" ⟨"FelledByNames$Tree", "takeFrom", "(LFelledByNames$Tree;)V"⟩ M_Tree_takeFrom 1 := ⟨kB_Tree_takeFrom, tm 660 (by decide +kernel) rfl, tm 663 (by decide +kernel) rfl, ⟨by decide, by decide⟩, tm 661 (by decide +kernel) rfl, ⟨prog_10_method_2_code, 2, none, tm 670 (by decide +kernel) rfl⟩, by decide +kernel, tm 661 (by decide +kernel) rfl, _, rfl, tm 666 (by decide +kernel) rfl⟩
theorem k_F_173_Tree_takeFrom_HillU : kU "FelledByNames" 173 12 "FelledByNames$Tree" ⟨"FelledByNames$Tree", "takeFrom", "(LFelledByNames$Tree;)V"⟩ M_Tree_takeFrom 1 := ⟨kB_Tree_takeFrom, tm 660 (by decide +kernel) rfl, tm 663 (by decide +kernel) rfl, ⟨by decide, by decide⟩, tm 661 (by decide +kernel) rfl, ⟨prog_10_method_2_code, 2, none, tm 670 (by decide +kernel) rfl⟩, by decide +kernel, tm 661 (by decide +kernel) rfl, _, rfl, tm 665 (by decide +kernel) rfl⟩
theorem vtk_F_173 : ∀ c, c ≤ 6 → kU "FelledByNames" 173 (6 + c) "FelledByNames$Tree" ⟨"FelledByNames$Tree", "takeFrom", "(LFelledByNames$Tree;)V"⟩ M_Tree_takeFrom 1 := fun c hc => by
  rcases (show c = 0 ∨ c = 1 ∨ c = 2 ∨ c = 3 ∨ c = 4 ∨ c = 5 ∨ c = 6 by omega) with rfl | rfl | rfl | rfl | rfl | rfl | rfl
  · exact k_F_173_Tree_takeFrom_TreeU
  · exact k_F_173_Tree_takeFrom_BeechU
  · exact k_F_173_Tree_takeFrom_OakU
  · exact k_F_173_Tree_takeFrom_SaplingU
  · exact k_F_173_Tree_takeFrom_WedgedU
  · exact k_F_173_Tree_takeFrom_HollowU
  · exact k_F_173_Tree_takeFrom_HillU
abbrev M_F_become : MD := (⟨"FelledByNames", "become", "(II)I"⟩, prog_1_method_10_code, 5, (some .int), fun _ => True)
theorem d_F_become_0 : decode prog_1_method_10_code 0 = .ok (.aload_n 0, 1) := by decide +kernel
theorem d_F_become_1 : decode prog_1_method_10_code 1 = .ok (.iload_n 1, 1) := by decide +kernel
theorem d_F_become_2 : decode prog_1_method_10_code 2 = .ok (.invokevirtual 152, 3) := by decide +kernel
theorem d_F_become_5 : decode prog_1_method_10_code 5 = .ok (.ifCond .eq 12, 3) := by decide +kernel
theorem d_F_become_17 : decode prog_1_method_10_code 17 = .ok (.aload_n 0, 1) := by decide +kernel
theorem d_F_become_18 : decode prog_1_method_10_code 18 = .ok (.iconst 1, 1) := by decide +kernel
theorem d_F_become_19 : decode prog_1_method_10_code 19 = .ok (.invokevirtual 97, 3) := by decide +kernel
theorem d_F_become_22 : decode prog_1_method_10_code 22 = .ok (.ireturn, 1) := by decide +kernel
theorem d_F_become_8 : decode prog_1_method_10_code 8 = .ok (.iload_n 2, 1) := by decide +kernel
theorem d_F_become_9 : decode prog_1_method_10_code 9 = .ok (.bipush 69, 2) := by decide +kernel
theorem d_F_become_11 : decode prog_1_method_10_code 11 = .ok (.invokestatic 94, 3) := by decide +kernel
theorem d_F_become_14 : decode prog_1_method_10_code 14 = .ok (.ifCond .ne 9, 3) := by decide +kernel
theorem d_F_become_23 : decode prog_1_method_10_code 23 = .ok (.aload_n 0, 1) := by decide +kernel
theorem d_F_become_24 : decode prog_1_method_10_code 24 = .ok (.getfield 39, 3) := by decide +kernel
theorem d_F_become_27 : decode prog_1_method_10_code 27 = .ok (.getfield 145, 3) := by decide +kernel
theorem d_F_become_30 : decode prog_1_method_10_code 30 = .ok (.iload_n 1, 1) := by decide +kernel
theorem d_F_become_31 : decode prog_1_method_10_code 31 = .ok (.aaload, 1) := by decide +kernel
theorem d_F_become_32 : decode prog_1_method_10_code 32 = .ok (.astore_n 3, 1) := by decide +kernel
theorem d_F_become_33 : decode prog_1_method_10_code 33 = .ok (.iload_n 2, 1) := by decide +kernel
theorem d_F_become_34 : decode prog_1_method_10_code 34 = .ok (.bipush 10, 2) := by decide +kernel
theorem d_F_become_36 : decode prog_1_method_10_code 36 = .ok (.idiv, 1) := by decide +kernel
theorem d_F_become_37 : decode prog_1_method_10_code 37 = .ok (.iload_n 1, 1) := by decide +kernel
theorem d_F_become_38 : decode prog_1_method_10_code 38 = .ok (.invokestatic 124, 3) := by decide +kernel
theorem d_F_become_41 : decode prog_1_method_10_code 41 = .ok (.astore 4, 2) := by decide +kernel
theorem d_F_become_43 : decode prog_1_method_10_code 43 = .ok (.aload 4, 2) := by decide +kernel
theorem d_F_become_45 : decode prog_1_method_10_code 45 = .ok (.aload_n 3, 1) := by decide +kernel
theorem d_F_become_46 : decode prog_1_method_10_code 46 = .ok (.invokevirtual 173, 3) := by decide +kernel
theorem d_F_become_49 : decode prog_1_method_10_code 49 = .ok (.aload 4, 2) := by decide +kernel
theorem d_F_become_51 : decode prog_1_method_10_code 51 = .ok (.iload_n 2, 1) := by decide +kernel
theorem d_F_become_52 : decode prog_1_method_10_code 52 = .ok (.bipush 10, 2) := by decide +kernel
theorem d_F_become_54 : decode prog_1_method_10_code 54 = .ok (.irem, 1) := by decide +kernel
theorem d_F_become_55 : decode prog_1_method_10_code 55 = .ok (.putfield 128, 3) := by decide +kernel
theorem d_F_become_58 : decode prog_1_method_10_code 58 = .ok (.aload_n 0, 1) := by decide +kernel
theorem d_F_become_59 : decode prog_1_method_10_code 59 = .ok (.getfield 39, 3) := by decide +kernel
theorem d_F_become_62 : decode prog_1_method_10_code 62 = .ok (.getfield 145, 3) := by decide +kernel
theorem d_F_become_65 : decode prog_1_method_10_code 65 = .ok (.iload_n 1, 1) := by decide +kernel
theorem d_F_become_66 : decode prog_1_method_10_code 66 = .ok (.aload 4, 2) := by decide +kernel
theorem d_F_become_68 : decode prog_1_method_10_code 68 = .ok (.aastore, 1) := by decide +kernel
theorem d_F_become_69 : decode prog_1_method_10_code 69 = .ok (.aload_n 3, 1) := by decide +kernel
theorem d_F_become_70 : decode prog_1_method_10_code 70 = .ok (.getfield 156, 3) := by decide +kernel
theorem d_F_become_73 : decode prog_1_method_10_code 73 = .ok (.ireturn, 1) := by decide +kernel
set_option maxRecDepth 100000 in
theorem c_F_become {N : Nat} {x y : Int32} {l : Launch} {d n : Nat} {R W Z : Nat → Nat → Int32} {T : Nat → Nat → Nat} {kn : Kn} {h0 : HP} {Q : QT} (hN : N ≤ 8) (e0 : W 0 0 = nI N) (hT : TI T kn n) (hB0 : WB (W 0)) (hh0 : ∀ a, ¬ (88 ≤ a ∧ a < 104) → h0 a = none) (hE : (wi x (nI 0) (nI N - nI 1) && wi y (nI 0) (nI 69)) = false → Q (some (.int (-1000000000 - nI 1))) n (co (uA R 54 (upd (R 54) 1 (R 54 1 + nI 1))) W Z T kn h0)) (hOk : ∀ i a, i < N → a ≤ 69 → x = nI i → y = nI a → Q (some (.int (W 0 (50 + 7 * i + 0)))) (n + 1) (co R (uW W 0 (upd (upd (W 0) (50 + 7 * i + 0) (nI (a / 10))) (50 + 7 * i + 1) (nI (a % 10)))) Z (uT T 0 i n) kn h0)) : Ct l M_F_become (d + 5) 1 8 [.ref 0, .int x, .int y] n (co R W Z T kn h0) Q := by
  refine Ct.of (fun _ => trivial) (by decide) (Nat.le_of_ble_eq_true rfl) ?_
  refine V.aload_n d_F_become_0 rfl ?_
  refine V.iload_n d_F_become_1 rfl ?_
  refine V.callV1 d_F_become_2 k_F_152_F_isTree_FV (co_s sc_ob) (Nat.le_of_ble_eq_true rfl) (by omega) (by omega) (c_F_isTree ?_)
  refine V.ifeqB (tgt := 17) d_F_become_5 (by decide) (fun c_5 => ?_) (fun c_5 => ?_)
  · skip
    refine V.aload_n d_F_become_17 rfl ?_
    refine V.iconst_ (nI 1) d_F_become_18 (by decide +kernel) ?_
    refine V.callV1 d_F_become_19 k_F_97_F_error_FV (co_s sc_ob) (Nat.le_of_ble_eq_true rfl) (by omega) (by omega) (c_F_error (by decide) ?_)
    refine V.iret d_F_become_22 rfl (by omega) (by omega) ?_
    rw [e0] at c_5
    exact hE (by simp only [c_5, Bool.and_false, Bool.false_and, Bool.and_true, Bool.true_and])
  · skip
    refine V.iload_n d_F_become_8 rfl ?_
    refine V.bipush_ (nI 69) d_F_become_9 (by decide +kernel) ?_
    refine V.callS2 d_F_become_11 k_F_94_F_withinS (Nat.le_of_ble_eq_true rfl) (by omega) (by omega) (c_F_within ?_)
    refine V.ifneB (tgt := 23) d_F_become_14 (by decide) (fun c_14 => ?_) (fun c_14 => ?_)
    · skip
      rw [e0] at c_5
      obtain ⟨i, hi, rfl⟩ := tre_nat hN c_5
      have hi8 : i < 8 := by omega
      obtain ⟨a, ha, rfl⟩ := wi_nat (k := 69) (by decide) c_14
      have hk6 : a / 10 ≤ 6 := by omega
      have h104 := hT.2.2.2
      have hw3 : wb 0 + 3 = 18 := rfl
      have hti := hT.1 0 i (by decide) hi8
      have htn : T 0 i ≠ n := by have := hti.2.2; omega
      have ht3 : T 0 i ≠ wb 0 + 3 := T_ne hT (by decide) hi8 (wb_ds 0 (by decide)).2.2.2.1 (by decide)
      obtain ⟨b6, e6⟩ : ∃ b : Bool, W 0 (50 + 7 * i + 6) = bi b := by
        obtain ⟨q, hq, e⟩ := hB0.k6 hi8
        rcases (show q = 0 ∨ q = 1 by omega) with rfl | rfl
        · exact ⟨false, e⟩
        · exact ⟨true, e⟩
      have hb := co_t (R := R) (W := W) (Z := Z) (h0 := h0) hT (w := 0) (by decide) hi8
      have hbk := hb
      unfold trc trl at hb hbk
      rw [e6] at hb
      refine V.aload_n d_F_become_23 rfl ?_
      refine V.get d_F_become_24 f_F_39_F (co_s sc_ob) rfl ?_
      refine V.get d_F_become_27 f_F_145_World (co_s (sc_wd (wb_ds 0 (by decide)).1)) rfl ?_
      refine V.iload_n d_F_become_30 rfl ?_
      refine V.aald d_F_become_31 (Or.inl rfl) (co_s (sc_tr (wb_ds 0 (by decide)).2.2.2.1)) (vp_in_nI (by omega) (by omega)) (by rw [icl (by omega)]; exact if_pos (by omega)) ?_
      refine V.astore_n d_F_become_32 (by decide) ?_
      refine V.iload_n d_F_become_33 rfl ?_
      refine V.bipush_ (nI 10) d_F_become_34 (by decide +kernel) ?_
      refine V.divN d_F_become_36 (by omega) (by omega) (by omega) ?_
      refine V.iload_n d_F_become_37 rfl ?_
      refine V.callS2 d_F_become_38 k_F_124_F_newTreeS (Nat.le_of_ble_eq_true rfl) (by omega) (by omega) (c_F_newTree (k := a / 10) (i := i) hk6 ?_)
      refine V.astore d_F_become_41 (by decide) ?_
      refine V.aload d_F_become_43 rfl ?_
      refine V.aload_n d_F_become_45 rfl ?_
      refine V.callU (vs := [_]) d_F_become_46 (vtk_F_173 _ hk6) up_s rfl rfl (Nat.le_of_ble_eq_true rfl) (by omega) (by omega) (c_Tree_takeFrom hk6 (hB0.kd hi8) htn up_s ((up_n htn).trans hb) ?_)
      refine V.eqH up_uu ?_
      refine V.aload d_F_become_49 rfl ?_
      refine V.iload_n d_F_become_51 rfl ?_
      refine V.bipush_ (nI 10) d_F_become_52 (by decide +kernel) ?_
      refine V.remN d_F_become_54 (by omega) (by omega) (by omega) ?_
      refine V.put d_F_become_55 (ft_F_128 _ hk6) (fpt_2 _ hk6) (fun _ => rfl) (fun _ => rfl) up_s (Nat.le_of_ble_eq_true rfl) ?_
      refine V.eqH up_uu ?_
      refine V.aload_n d_F_become_58 rfl ?_
      refine V.get d_F_become_59 f_F_39_F ((up_n (show _ ≠ n by (try unfold wb); (try rw [if_pos rfl]); omega)).trans (co_s sc_ob)) rfl ?_
      refine V.get d_F_become_62 f_F_145_World ((up_n (show _ ≠ n by (try unfold wb); (try rw [if_pos rfl]); omega)).trans (co_s (sc_wd (wb_ds 0 (by decide)).1))) rfl ?_
      refine V.iload_n d_F_become_65 rfl ?_
      refine V.aload d_F_become_66 rfl ?_
      refine V.aast (cn := "FelledByNames$Tree") d_F_become_68 (Or.inl ⟨rfl, rfl⟩) ((up_n (show wb 0 + 3 ≠ n by omega)).trans (co_s (sc_tr (wb_ds 0 (by decide)).2.2.2.1))) up_s (kcls_ok _ hk6) (kcls_tr _ hk6) (vp_in_nI (by omega) (by omega)) ?_
      refine V.aload_n d_F_become_69 rfl ?_
      refine V.get d_F_become_70 (ft_F_156 _ (hB0.kd hi8)) ((up_n ht3).trans ((up_n htn).trans hbk)) rfl ?_
      have eD : ∀ j, j < 50 + 7 * i ∨ 50 + 7 * i + 7 ≤ j → (upd (upd (W 0) (50 + 7 * i + 0) (nI (a / 10))) (50 + 7 * i + 1) (nI (a % 10))) j = W 0 j := fun j hj => by rw [pk_un (by omega), pk_un (by omega)]
      have eT : trc (uW W 0 (upd (upd (W 0) (50 + 7 * i + 0) (nI (a / 10))) (50 + 7 * i + 1) (nI (a % 10)))) 0 i = .inr (6 + a / 10, [.int (nI (a / 10)), .int (nI i), .int (nI (a % 10)), .int (W 0 (50 + 7 * i + 2)), .int (W 0 (50 + 7 * i + 3)), .int (W 0 (50 + 7 * i + 4)), .int (W 0 (50 + 7 * i + 5)), .int (bi b6)]) := by
        have q0 : (upd (upd (W 0) (50 + 7 * i + 0) (nI (a / 10))) (50 + 7 * i + 1) (nI (a % 10))) (50 + 7 * i + 0) = nI (a / 10) := by rw [pk_un (by omega), pk_us]
        have q1 : (upd (upd (W 0) (50 + 7 * i + 0) (nI (a / 10))) (50 + 7 * i + 1) (nI (a % 10))) (50 + 7 * i + 1) = nI (a % 10) := pk_us
        have qq : ∀ k, 2 ≤ k → (upd (upd (W 0) (50 + 7 * i + 0) (nI (a / 10))) (50 + 7 * i + 1) (nI (a % 10))) (50 + 7 * i + k) = W 0 (50 + 7 * i + k) := fun k hk => by rw [pk_un (by omega), pk_un (by omega)]
        unfold trc trl tN
        rw [uW_s, q0, icl (by omega), q1, qq 2 (by omega), qq 3 (by omega), qq 4 (by omega), qq 5 (by omega), qq 6 (by omega), e6]
      refine V.hp (h' := co R (uW W 0 (upd (upd (W 0) (50 + 7 * i + 0) (nI (a / 10))) (50 + 7 * i + 1) (nI (a % 10)))) Z (uT T 0 i n) kn h0) (fun q e h => ?_) ?_
      · have g := co_ntG eD hT (by decide) hi8 hh0 q e h
        rw [eT] at g
        exact g
      refine V.iret d_F_become_73 rfl (by omega) (by omega) ?_
      exact hOk i a hi ha rfl rfl
    · skip
      refine V.aload_n d_F_become_17 rfl ?_
      refine V.iconst_ (nI 1) d_F_become_18 (by decide +kernel) ?_
      refine V.callV1 d_F_become_19 k_F_97_F_error_FV (co_s sc_ob) (Nat.le_of_ble_eq_true rfl) (by omega) (by omega) (c_F_error (by decide) ?_)
      refine V.iret d_F_become_22 rfl (by omega) (by omega) ?_
      rw [e0] at c_5
      exact hE (by simp only [c_5, c_14, Bool.and_false, Bool.false_and, Bool.and_true, Bool.true_and])
theorem b255 : ∀ i, i < 64 → (nI 255).toInt64.toBitVec.getLsbD i = decide (i < 8) := by decide +kernel
theorem b255' : ∀ i, i < 32 → (nI 255).toBitVec.getLsbD i = decide (i < 8) := by decide +kernel
theorem sh8 : ∀ k, k < 8 → ((((nI (8 * k)).toInt64 &&& 63) : Int64).toBitVec.smod 64).toNat = 8 * k ∧ (((nI (8 * k)).toInt64.toUInt64 &&& Int64.toUInt64 63).toBitVec.toNat % 64) = 8 * k := by decide +kernel
theorem fdb_bit {w : Int64} {k i : Nat} (hk : k < 8) (hi : i < 32) : (fdb w k).toBitVec.getLsbD i = (decide (i < 8) && w.toBitVec.getLsbD (8 * k + i)) := by
  unfold fdb
  rw [Int64.toBitVec_toInt32, BitVec.getLsbD_signExtend, Int64.toBitVec_and, BitVec.getLsbD_and, b255 i (by omega), Int64.toBitVec_shiftRight, BitVec.sshiftRight_eq', (sh8 k hk).1, BitVec.getLsbD_sshiftRight]
  by_cases h8 : i < 8
  · simp only [h8, hi, decide_true, Bool.true_and, Bool.and_true, show i < 64 by omega, if_true, show ¬ 64 ≤ i by omega, decide_false, Bool.not_false, show 8 * k + i < 64 by omega]
  · simp only [h8, decide_false, Bool.false_and, Bool.and_false, show i < 64 by omega, if_true]
theorem fdb_c {w : Int64} {k : Nat} (hk : k < 8) : ((w.toUInt64 >>> ((nI (8 * k)).toInt64.toUInt64 &&& Int64.toUInt64 63)).toInt64.toInt32 &&& nI 255) = fdb w k := by
  apply Int32.toBitVec_inj.mp
  apply BitVec.eq_of_getLsbD_eq
  intro i hi
  rw [fdb_bit hk hi, Int32.toBitVec_and, BitVec.getLsbD_and, b255' i hi, Int64.toBitVec_toInt32, BitVec.getLsbD_signExtend]
  by_cases h8 : i < 8
  · have e : (w.toUInt64 >>> ((nI (8 * k)).toInt64.toUInt64 &&& Int64.toUInt64 63)).toInt64.toBitVec.getLsbD i = w.toBitVec.getLsbD (8 * k + i) := by
      show (w.toUInt64 >>> ((nI (8 * k)).toInt64.toUInt64 &&& Int64.toUInt64 63)).toBitVec.getLsbD i = _
      rw [UInt64.toBitVec_shiftRight, BitVec.ushiftRight_eq', BitVec.getLsbD_ushiftRight, BitVec.toNat_umod]
      show w.toBitVec.getLsbD (((nI (8 * k)).toInt64.toUInt64 &&& Int64.toUInt64 63).toBitVec.toNat % 64 + i) = _
      rw [(sh8 k hk).2]
    rw [e]
    simp only [h8, hi, decide_true, Bool.true_and, Bool.and_true, show i < 64 by omega, if_true]
  · simp only [h8, decide_false, Bool.false_and, Bool.and_false]
theorem fdb_byte {w : Int64} {k : Nat} (hk : k < 8) : ∃ c, c < 256 ∧ fdb w k = nI c := by
  have h : fdb w k = nI ((fdb w k).toBitVec.toNat) := by
    apply Int32.toBitVec_inj.mp
    apply BitVec.eq_of_toNat_eq
    rw [pk_tn (fdb w k).toBitVec.isLt]
  refine ⟨(fdb w k).toBitVec.toNat, ?_, h⟩
  refine Nat.not_le.mp (fun hge => ?_)
  obtain ⟨i, hi1, hi2⟩ : ∃ i, 8 ≤ i ∧ (fdb w k).toBitVec.toNat.testBit i = true := by
    refine Classical.byContradiction (fun hn => ?_)
    have : (fdb w k).toBitVec.toNat < 2 ^ 8 := Nat.lt_pow_two_of_testBit _ (fun i hi => by
      refine Bool.eq_false_iff.mpr (fun z => hn ⟨i, hi, z⟩))
    omega
  by_cases h32 : i < 32
  · have := fdb_bit (w := w) hk h32
    rw [BitVec.getLsbD, hi2, decide_eq_false (by omega), Bool.false_and] at this
    cases this
  · have : (fdb w k).toBitVec.getLsbD i = false := BitVec.getLsbD_of_ge _ _ (by omega)
    rw [BitVec.getLsbD, hi2] at this
    cases this
def fdR (w : Int64) (t : Nat) (f : Nat → Int32) : Nat → Nat → Int32 := fun k => itr (fun k g => upd g (t + k) (fdb w k)) k f
abbrev M_F_feed : MD := (⟨"FelledByNames", "feed", "(JI)I"⟩, prog_1_method_12_code, 5, (some .int), fun _ => True)
theorem d_F_feed_0 : decode prog_1_method_12_code 0 = .ok (.iload_n 3, 1) := by decide +kernel
theorem d_F_feed_1 : decode prog_1_method_12_code 1 = .ok (.iconst 1, 1) := by decide +kernel
theorem d_F_feed_2 : decode prog_1_method_12_code 2 = .ok (.if_icmp .lt 9, 3) := by decide +kernel
theorem d_F_feed_11 : decode prog_1_method_12_code 11 = .ok (.aload_n 0, 1) := by decide +kernel
theorem d_F_feed_12 : decode prog_1_method_12_code 12 = .ok (.iconst 1, 1) := by decide +kernel
theorem d_F_feed_13 : decode prog_1_method_12_code 13 = .ok (.invokevirtual 97, 3) := by decide +kernel
theorem d_F_feed_16 : decode prog_1_method_12_code 16 = .ok (.ireturn, 1) := by decide +kernel
theorem d_F_feed_5 : decode prog_1_method_12_code 5 = .ok (.iload_n 3, 1) := by decide +kernel
theorem d_F_feed_6 : decode prog_1_method_12_code 6 = .ok (.bipush 8, 2) := by decide +kernel
theorem d_F_feed_8 : decode prog_1_method_12_code 8 = .ok (.if_icmp .le 9, 3) := by decide +kernel
theorem d_F_feed_17 : decode prog_1_method_12_code 17 = .ok (.aload_n 0, 1) := by decide +kernel
theorem d_F_feed_18 : decode prog_1_method_12_code 18 = .ok (.getfield 14, 3) := by decide +kernel
theorem f_F_14_F : fok "FelledByNames" 14 0 0 := ⟨R_F, F_F, 15, "FelledByNames", rfl, i_F, by decide, tm 424 (by decide +kernel) rfl, Or.inl rfl, t_F, t_F_ok, n_F⟩
theorem d_F_feed_21 : decode prog_1_method_12_code 21 = .ok (.getfield 181, 3) := by decide +kernel
theorem d_F_feed_24 : decode prog_1_method_12_code 24 = .ok (.iload_n 3, 1) := by decide +kernel
theorem d_F_feed_25 : decode prog_1_method_12_code 25 = .ok (.iadd, 1) := by decide +kernel
theorem d_F_feed_26 : decode prog_1_method_12_code 26 = .ok (.bipush 50, 2) := by decide +kernel
theorem d_F_feed_28 : decode prog_1_method_12_code 28 = .ok (.if_icmp .le 9, 3) := by decide +kernel
theorem d_F_feed_37 : decode prog_1_method_12_code 37 = .ok (.iconst 0, 1) := by decide +kernel
theorem d_F_feed_38 : decode prog_1_method_12_code 38 = .ok (.istore 4, 2) := by decide +kernel
theorem d_F_feed_40 : decode prog_1_method_12_code 40 = .ok (.iload 4, 2) := by decide +kernel
theorem d_F_feed_42 : decode prog_1_method_12_code 42 = .ok (.iload_n 3, 1) := by decide +kernel
theorem d_F_feed_43 : decode prog_1_method_12_code 43 = .ok (.if_icmp .ge 28, 3) := by decide +kernel
theorem d_F_feed_71 : decode prog_1_method_12_code 71 = .ok (.aload_n 0, 1) := by decide +kernel
theorem d_F_feed_72 : decode prog_1_method_12_code 72 = .ok (.getfield 14, 3) := by decide +kernel
theorem d_F_feed_75 : decode prog_1_method_12_code 75 = .ok (.getfield 181, 3) := by decide +kernel
theorem d_F_feed_78 : decode prog_1_method_12_code 78 = .ok (.ireturn, 1) := by decide +kernel
theorem d_F_feed_46 : decode prog_1_method_12_code 46 = .ok (.aload_n 0, 1) := by decide +kernel
theorem d_F_feed_47 : decode prog_1_method_12_code 47 = .ok (.getfield 14, 3) := by decide +kernel
theorem d_F_feed_50 : decode prog_1_method_12_code 50 = .ok (.lload_n 1, 1) := by decide +kernel
theorem d_F_feed_51 : decode prog_1_method_12_code 51 = .ok (.bipush 8, 2) := by decide +kernel
theorem d_F_feed_53 : decode prog_1_method_12_code 53 = .ok (.iload 4, 2) := by decide +kernel
theorem d_F_feed_55 : decode prog_1_method_12_code 55 = .ok (.imul, 1) := by decide +kernel
theorem d_F_feed_56 : decode prog_1_method_12_code 56 = .ok (.lushr, 1) := by decide +kernel
theorem d_F_feed_57 : decode prog_1_method_12_code 57 = .ok (.l2i, 1) := by decide +kernel
theorem d_F_feed_58 : decode prog_1_method_12_code 58 = .ok (.sipush 255, 3) := by decide +kernel
theorem d_F_feed_61 : decode prog_1_method_12_code 61 = .ok (.iand, 1) := by decide +kernel
theorem d_F_feed_62 : decode prog_1_method_12_code 62 = .ok (.invokevirtual 184, 3) := by decide +kernel
theorem d_F_feed_65 : decode prog_1_method_12_code 65 = .ok (.iinc 4 1, 3) := by decide +kernel
theorem d_F_feed_68 : decode prog_1_method_12_code 68 = .ok (.goto (-28), 3) := by decide +kernel
theorem d_F_feed_31 : decode prog_1_method_12_code 31 = .ok (.aload_n 0, 1) := by decide +kernel
theorem d_F_feed_32 : decode prog_1_method_12_code 32 = .ok (.iconst 4, 1) := by decide +kernel
theorem d_F_feed_33 : decode prog_1_method_12_code 33 = .ok (.invokevirtual 97, 3) := by decide +kernel
theorem d_F_feed_36 : decode prog_1_method_12_code 36 = .ok (.ireturn, 1) := by decide +kernel
set_option maxRecDepth 100000 in
theorem c_F_feed {tp : Nat} {w : Int64} {x : Int32} {l : Launch} {d n : Nat} {R W Z : Nat → Nat → Int32} {T : Nat → Nat → Nat} {kn : Kn} {h0 : HP} {Q : QT} (htp : tp ≤ 50) (et : Z 1 1 = nI tp) (hE : wi x (nI 1) (nI 8) = false → Q (some (.int (-1000000000 - nI 1))) n (co (uA R 54 (upd (R 54) 1 (R 54 1 + nI 1))) W Z T kn h0)) (hF : ∀ k, 1 ≤ k → k ≤ 8 → x = nI k → 50 < tp + k → Q (some (.int (-1000000000 - nI 4))) n (co (uA R 54 (upd (R 54) 4 (R 54 4 + nI 1))) W Z T kn h0)) (hOk : ∀ k, 1 ≤ k → k ≤ 8 → x = nI k → tp + k ≤ 50 → Q (some (.int (nI (tp + k)))) n (co (uA R 2 (fdR w tp (R 2) k)) W (uZ Z 1 1 (nI (tp + k))) T kn h0)) : Ct l M_F_feed (d + 2) 0 0 [.ref 0, .long w, .int x] n (co R W Z T kn h0) Q := by
  refine Ct.of (fun _ => trivial) (by decide) (Nat.le_of_ble_eq_true rfl) ?_
  refine V.iload_n d_F_feed_0 rfl ?_
  refine V.iconst_ (nI 1) d_F_feed_1 (by decide +kernel) ?_
  refine V.icmp_lt (tgt := 11) d_F_feed_2 (by decide) (fun c_2 => ?_) (fun c_2 => ?_)
  · skip
    refine V.aload_n d_F_feed_11 rfl ?_
    refine V.iconst_ (nI 1) d_F_feed_12 (by decide +kernel) ?_
    refine V.callV1 d_F_feed_13 k_F_97_F_error_FV (co_s sc_ob) (Nat.le_of_ble_eq_true rfl) (by omega) (by omega) (c_F_error (by decide) ?_)
    refine V.iret d_F_feed_16 rfl (by omega) (by omega) ?_
    exact hE (by unfold wi; rw [decide_eq_false (Int32.not_le.mpr c_2), Bool.false_and])
  · skip
    refine V.iload_n d_F_feed_5 rfl ?_
    refine V.bipush_ (nI 8) d_F_feed_6 (by decide +kernel) ?_
    refine V.icmp_le (tgt := 17) d_F_feed_8 (by decide) (fun c_8 => ?_) (fun c_8 => ?_)
    · skip
      obtain ⟨m, hm1, hm8, rfl⟩ := wi_nat1 (k := 8) (by decide) (show wi x (nI 1) (nI 8) = true by unfold wi; rw [decide_eq_true (Int32.not_lt.mp c_2), decide_eq_true c_8]; rfl)
      refine V.aload_n d_F_feed_17 rfl ?_
      refine V.get d_F_feed_18 f_F_14_F (co_s sc_ob) rfl ?_
      refine V.get d_F_feed_21 f_F_181_Row (co_s (sc_rw rfl)) rfl ?_
      refine V.top (y := nI tp) (et) ?_
      refine V.iload_n d_F_feed_24 rfl ?_
      refine V.addN d_F_feed_25 ?_
      refine V.bipush_ (nI 50) d_F_feed_26 (by decide +kernel) ?_
      refine V.leN (tgt := 37) d_F_feed_28 (by decide) (by omega) (by omega) (fun c_28 => ?_) (fun c_28 => ?_)
      · skip
        refine V.iconst_ (nI 0) d_F_feed_37 (by decide +kernel) ?_
        refine V.istore d_F_feed_38 (by decide) ?_
        refine V.eqH (h' := co (uA R 2 (fdR w tp (R 2) 0)) W (uZ Z 1 1 (nI (tp + 0))) T kn h0) (by rw [show fdR w tp (R 2) 0 = R 2 from rfl, uA_id, Nat.add_zero, ← et, uZ_id]) ?_
        refine V.lc (ls' := [(0, .ref 0), (1, .long w), (3, .int (nI m)), (4, .int (nI 0))]) rfl ?_
        refine up_to (G := fun k => V l M_F_feed (d + 2) 0 0 40 [(0, .ref 0), (1, .long w), (3, .int (nI m)), (4, .int (nI k))] [] n (co (uA R 2 (fdR w tp (R 2) k)) W (uZ Z 1 1 (nI (tp + k))) T kn h0) 0 0 Q) (m) ?_ (fun k hk hn => ?_) 0 (by omega)
        · skip
          refine V.iload d_F_feed_40 rfl ?_
          refine V.iload_n d_F_feed_42 rfl ?_
          refine V.geN (tgt := 71) d_F_feed_43 (by decide) (by omega) (by omega) (fun c_43 => ?_) (fun c_43 => ?_)
          · skip
            refine V.aload_n d_F_feed_71 rfl ?_
            refine V.get d_F_feed_72 f_F_14_F (co_s sc_ob) rfl ?_
            refine V.get d_F_feed_75 f_F_181_Row (co_s (sc_rw rfl)) rfl ?_
            rw [uZ_s]
            refine V.iret d_F_feed_78 rfl (by omega) (by omega) ?_
            exact hOk m hm1 hm8 rfl (by omega)
          · skip
            exact absurd c_43 (by omega)
        · skip
          refine V.iload d_F_feed_40 rfl ?_
          refine V.iload_n d_F_feed_42 rfl ?_
          refine V.geN (tgt := 71) d_F_feed_43 (by decide) (by omega) (by omega) (fun c_43 => ?_) (fun c_43 => ?_)
          · skip
            exact absurd c_43 (by omega)
          · skip
            refine V.aload_n d_F_feed_46 rfl ?_
            refine V.get d_F_feed_47 f_F_14_F (co_s sc_ob) rfl ?_
            refine V.lload_n d_F_feed_50 rfl ?_
            refine V.bipush_ (nI 8) d_F_feed_51 (by decide +kernel) ?_
            refine V.iload d_F_feed_53 rfl ?_
            refine V.mulN d_F_feed_55 ?_
            refine V.lushr d_F_feed_56 ?_
            refine V.l2i d_F_feed_57 ?_
            refine V.sipush_ (nI 255) d_F_feed_58 (by decide +kernel) ?_
            refine V.iand d_F_feed_61 ?_
            refine V.callV1 d_F_feed_62 k_F_184_Row_add_RowV (co_s (sc_rw rfl)) (Nat.le_of_ble_eq_true rfl) (by omega) (by omega) (c_Row_add (a := 1) (N := 50) (sz := tp + k) rfl rfl uZ_s (by omega) (by decide) (fun _ => ?_) (fun z => absurd z (by omega)))
            refine V.incN d_F_feed_65 rfl (by decide) ?_
            refine V.goto (tgt := 40) d_F_feed_68 (by decide) ?_
            rw [fdb_c (by omega), uA_s, uA_uu, uZ_uu]
            exact V.lc rfl hn
      · skip
        refine V.aload_n d_F_feed_31 rfl ?_
        refine V.iconst_ (nI 4) d_F_feed_32 (by decide +kernel) ?_
        refine V.callV1 d_F_feed_33 k_F_97_F_error_FV (co_s sc_ob) (Nat.le_of_ble_eq_true rfl) (by omega) (by omega) (c_F_error (by decide) ?_)
        refine V.iret d_F_feed_36 rfl (by omega) (by omega) ?_
        exact hF m hm1 hm8 rfl (by omega)
    · skip
      refine V.aload_n d_F_feed_11 rfl ?_
      refine V.iconst_ (nI 1) d_F_feed_12 (by decide +kernel) ?_
      refine V.callV1 d_F_feed_13 k_F_97_F_error_FV (co_s sc_ob) (Nat.le_of_ble_eq_true rfl) (by omega) (by omega) (c_F_error (by decide) ?_)
      refine V.iret d_F_feed_16 rfl (by omega) (by omega) ?_
      exact hE (by unfold wi; rw [decide_eq_false c_8, Bool.and_false])
abbrev M_F_law : MD := (⟨"FelledByNames", "law", "(IIII)I"⟩, prog_1_method_14_code, 5, (some .int), fun _ => True)
theorem d_F_law_0 : decode prog_1_method_14_code 0 = .ok (.iload_n 1, 1) := by decide +kernel
theorem d_F_law_1 : decode prog_1_method_14_code 1 = .ok (.iconst 1, 1) := by decide +kernel
theorem d_F_law_2 : decode prog_1_method_14_code 2 = .ok (.invokestatic 94, 3) := by decide +kernel
theorem d_F_law_5 : decode prog_1_method_14_code 5 = .ok (.ifCond .ne 9, 3) := by decide +kernel
theorem d_F_law_14 : decode prog_1_method_14_code 14 = .ok (.iload_n 1, 1) := by decide +kernel
theorem d_F_law_15 : decode prog_1_method_14_code 15 = .ok (.ifCond .ne 10, 3) := by decide +kernel
theorem d_F_law_25 : decode prog_1_method_14_code 25 = .ok (.aload_n 0, 1) := by decide +kernel
theorem d_F_law_26 : decode prog_1_method_14_code 26 = .ok (.getfield 31, 3) := by decide +kernel
theorem f_F_31_F : fok "FelledByNames" 31 0 2 := ⟨R_F, F_F, 15, "FelledByNames", rfl, i_F, by decide, tm 426 (by decide +kernel) rfl, Or.inl rfl, t_F, t_F_ok, n_F⟩
theorem d_F_law_29 : decode prog_1_method_14_code 29 = .ok (.iload_n 2, 1) := by decide +kernel
theorem d_F_law_30 : decode prog_1_method_14_code 30 = .ok (.iload_n 3, 1) := by decide +kernel
theorem d_F_law_31 : decode prog_1_method_14_code 31 = .ok (.iload 4, 2) := by decide +kernel
theorem d_F_law_33 : decode prog_1_method_14_code 33 = .ok (.invokevirtual 193, 3) := by decide +kernel
theorem k_F_193_Text_gives_TextV : kV "FelledByNames" 193 3 M_Text_gives 3 := ⟨kB_Text_gives, tm 693 (by decide +kernel) rfl, tm 694 (by decide +kernel) rfl, tm 695 (by decide +kernel) rfl, _, rfl, rfl⟩
theorem d_F_law_36 : decode prog_1_method_14_code 36 = .ok (.ireturn, 1) := by decide +kernel
theorem d_F_law_18 : decode prog_1_method_14_code 18 = .ok (.aload_n 0, 1) := by decide +kernel
theorem d_F_law_19 : decode prog_1_method_14_code 19 = .ok (.getfield 25, 3) := by decide +kernel
theorem f_F_25_F : fok "FelledByNames" 25 0 1 := ⟨R_F, F_F, 15, "FelledByNames", rfl, i_F, by decide, tm 425 (by decide +kernel) rfl, Or.inl rfl, t_F, t_F_ok, n_F⟩
theorem d_F_law_22 : decode prog_1_method_14_code 22 = .ok (.goto 7, 3) := by decide +kernel
theorem d_F_law_8 : decode prog_1_method_14_code 8 = .ok (.aload_n 0, 1) := by decide +kernel
theorem d_F_law_9 : decode prog_1_method_14_code 9 = .ok (.iconst 1, 1) := by decide +kernel
theorem d_F_law_10 : decode prog_1_method_14_code 10 = .ok (.invokevirtual 97, 3) := by decide +kernel
theorem d_F_law_13 : decode prog_1_method_14_code 13 = .ok (.ireturn, 1) := by decide +kernel
set_option maxRecDepth 100000 in
theorem c_F_law {len0 len1 : Nat} {Wc0 Wc1 : Nat → Nat} {x y z v : Int32} {l : Launch} {d n : Nat} {R W Z : Nat → Nat → Int32} {T : Nat → Nat → Nat} {kn : Kn} {h0 : HP} {Q : QT} (hx0 : TX R Z 0 Wc0 len0) (hx1 : TX R Z 1 Wc1 len1) (hE : wi x (nI 0) (nI 1) = false → Q (some (.int (-1000000000 - nI 1))) n (co (uA R 54 (upd (R 54) 1 (R 54 1 + nI 1))) W Z T kn h0)) (h0k : x = nI 0 → ∀ P : Nat → Int32, Q (some (.int (cvc Wc0 len0 y z v))) n (co (uA R 8 P) W Z T kn h0)) (h1k : x = nI 1 → ∀ P : Nat → Int32, Q (some (.int (wvc Wc1 len1 y z v))) n (co (uA R 14 P) W Z T kn h0)) : Ct l M_F_law (d + 3) 0 0 [.ref 0, .int x, .int y, .int z, .int v] n (co R W Z T kn h0) Q := by
  refine Ct.of (fun _ => trivial) (by decide) (Nat.le_of_ble_eq_true rfl) ?_
  refine V.iload_n d_F_law_0 rfl ?_
  refine V.iconst_ (nI 1) d_F_law_1 (by decide +kernel) ?_
  refine V.callS2 d_F_law_2 k_F_94_F_withinS (Nat.le_of_ble_eq_true rfl) (by omega) (by omega) (c_F_within ?_)
  refine V.ifneB (tgt := 14) d_F_law_5 (by decide) (fun c_5 => ?_) (fun c_5 => ?_)
  · skip
    refine V.iload_n d_F_law_14 rfl ?_
    refine V.if_ne (tgt := 25) d_F_law_15 (by decide) (fun c_15 => ?_) (fun c_15 => ?_)
    · skip
      refine V.aload_n d_F_law_25 rfl ?_
      refine V.get d_F_law_26 f_F_31_F (co_s sc_ob) rfl ?_
      refine V.iload_n d_F_law_29 rfl ?_
      refine V.iload_n d_F_law_30 rfl ?_
      refine V.iload d_F_law_31 rfl ?_
      refine V.callV3 d_F_law_33 k_F_193_Text_gives_TextV (co_s (sc_tx (tx_ds 1 (by decide)).1)) (Nat.le_of_ble_eq_true rfl) (by omega) (by omega) (c_Text_gives (u := 1) (by decide) hx1.1 hx1.2.1 hx1.2.2 (fun P => ?_))
      refine V.iret d_F_law_36 rfl (by omega) (by omega) ?_
      refine h1k ?_ P
      obtain ⟨q, hq, rfl⟩ := wi_nat (k := 1) (by decide) c_5
      rcases (show q = 0 ∨ q = 1 by omega) with rfl | rfl
      · exact absurd rfl c_15
      · rfl
    · skip
      refine V.aload_n d_F_law_18 rfl ?_
      refine V.get d_F_law_19 f_F_25_F (co_s sc_ob) rfl ?_
      refine V.goto (tgt := 29) d_F_law_22 (by decide) ?_
      refine V.iload_n d_F_law_29 rfl ?_
      refine V.iload_n d_F_law_30 rfl ?_
      refine V.iload d_F_law_31 rfl ?_
      refine V.callV3 d_F_law_33 k_F_193_Text_gives_TextV (co_s (sc_tx (tx_ds 0 (by decide)).1)) (Nat.le_of_ble_eq_true rfl) (by omega) (by omega) (c_Text_gives (u := 0) (by decide) hx0.1 hx0.2.1 hx0.2.2 (fun P => ?_))
      refine V.iret d_F_law_36 rfl (by omega) (by omega) ?_
      exact h0k c_15 P
  · skip
    refine V.aload_n d_F_law_8 rfl ?_
    refine V.iconst_ (nI 1) d_F_law_9 (by decide +kernel) ?_
    refine V.callV1 d_F_law_10 k_F_97_F_error_FV (co_s sc_ob) (Nat.le_of_ble_eq_true rfl) (by omega) (by omega) (c_F_error (by decide) ?_)
    refine V.iret d_F_law_13 rfl (by omega) (by omega) ?_
    exact hE c_5
abbrev M_F_text : MD := (⟨"FelledByNames", "text", "(I)I"⟩, prog_1_method_13_code, 3, (some .int), fun _ => True)
theorem d_F_text_0 : decode prog_1_method_13_code 0 = .ok (.iload_n 1, 1) := by decide +kernel
theorem d_F_text_1 : decode prog_1_method_13_code 1 = .ok (.iconst 1, 1) := by decide +kernel
theorem d_F_text_2 : decode prog_1_method_13_code 2 = .ok (.invokestatic 94, 3) := by decide +kernel
theorem d_F_text_5 : decode prog_1_method_13_code 5 = .ok (.ifCond .ne 9, 3) := by decide +kernel
theorem d_F_text_14 : decode prog_1_method_13_code 14 = .ok (.iload_n 1, 1) := by decide +kernel
theorem d_F_text_15 : decode prog_1_method_13_code 15 = .ok (.ifCond .ne 10, 3) := by decide +kernel
theorem d_F_text_25 : decode prog_1_method_13_code 25 = .ok (.aload_n 0, 1) := by decide +kernel
theorem d_F_text_26 : decode prog_1_method_13_code 26 = .ok (.getfield 31, 3) := by decide +kernel
theorem d_F_text_29 : decode prog_1_method_13_code 29 = .ok (.invokevirtual 187, 3) := by decide +kernel
theorem kB_Text_read : kB M_Text_read 0 := ⟨tm 4 (by decide +kernel) rfl, tm 288 (by decide +kernel) rfl, ⟨by decide, by decide, by decide +kernel⟩, by decide⟩
theorem k_F_187_Text_read_TextV : kV "FelledByNames" 187 3 M_Text_read 0 := ⟨kB_Text_read, tm 687 (by decide +kernel) rfl, tm 286 (by decide +kernel) rfl, tm 287 (by decide +kernel) rfl, _, rfl, rfl⟩
theorem d_F_text_32 : decode prog_1_method_13_code 32 = .ok (.istore_n 2, 1) := by decide +kernel
theorem d_F_text_33 : decode prog_1_method_13_code 33 = .ok (.aload_n 0, 1) := by decide +kernel
theorem d_F_text_34 : decode prog_1_method_13_code 34 = .ok (.getfield 14, 3) := by decide +kernel
theorem d_F_text_37 : decode prog_1_method_13_code 37 = .ok (.invokevirtual 190, 3) := by decide +kernel
theorem k_F_190_Row_clear_RowV : kV "FelledByNames" 190 1 M_Row_clear 0 := ⟨kB_Row_clear, tm 688 (by decide +kernel) rfl, tm 290 (by decide +kernel) rfl, tm 291 (by decide +kernel) rfl, _, rfl, rfl⟩
theorem d_F_text_40 : decode prog_1_method_13_code 40 = .ok (.iload_n 2, 1) := by decide +kernel
theorem d_F_text_41 : decode prog_1_method_13_code 41 = .ok (.ifCond .ge 7, 3) := by decide +kernel
theorem d_F_text_48 : decode prog_1_method_13_code 48 = .ok (.bipush (-10), 2) := by decide +kernel
theorem d_F_text_50 : decode prog_1_method_13_code 50 = .ok (.iload_n 2, 1) := by decide +kernel
theorem d_F_text_51 : decode prog_1_method_13_code 51 = .ok (.isub, 1) := by decide +kernel
theorem d_F_text_52 : decode prog_1_method_13_code 52 = .ok (.ireturn, 1) := by decide +kernel
theorem d_F_text_44 : decode prog_1_method_13_code 44 = .ok (.iconst 1, 1) := by decide +kernel
theorem d_F_text_45 : decode prog_1_method_13_code 45 = .ok (.goto 7, 3) := by decide +kernel
theorem d_F_text_18 : decode prog_1_method_13_code 18 = .ok (.aload_n 0, 1) := by decide +kernel
theorem d_F_text_19 : decode prog_1_method_13_code 19 = .ok (.getfield 25, 3) := by decide +kernel
theorem d_F_text_22 : decode prog_1_method_13_code 22 = .ok (.goto 7, 3) := by decide +kernel
theorem d_F_text_8 : decode prog_1_method_13_code 8 = .ok (.aload_n 0, 1) := by decide +kernel
theorem d_F_text_9 : decode prog_1_method_13_code 9 = .ok (.iconst 1, 1) := by decide +kernel
theorem d_F_text_10 : decode prog_1_method_13_code 10 = .ok (.invokevirtual 97, 3) := by decide +kernel
theorem d_F_text_13 : decode prog_1_method_13_code 13 = .ok (.ireturn, 1) := by decide +kernel
set_option maxRecDepth 100000 in
theorem c_F_text {sz : Nat} {x : Int32} {l : Launch} {d n : Nat} {R W Z : Nat → Nat → Int32} {T : Nat → Nat → Nat} {kn : Kn} {h0 : HP} {Q : QT} (hsz : sz ≤ 50) (hz : Z 1 1 = nI sz) (hBy : ∀ j, j < sz → ∃ c, c < 256 ∧ R 2 j = nI c) (hT : TI T kn n) (hE : wi x (nI 0) (nI 1) = false → Q (some (.int (-1000000000 - nI 1))) n (co (uA R 54 (upd (R 54) 1 (R 54 1 + nI 1))) W Z T kn h0)) (hF : ∀ u, u ≤ 1 → x = nI u → (teP (R 2) sz (decide (u = 1))).2.1 = true → ∀ R1 Z1 : Nat → Nat → Int32, (∀ a, a ≠ 5 + 6 * u → a ≠ 7 + 6 * u → R1 a = R a) → (∀ b j, b ≠ 3 + 6 * u → b ≠ 4 + 6 * u → b ≠ 6 + 6 * u → Z1 b j = Z b j) → R1 (5 + 6 * u) = R (5 + 6 * u) → Z1 (4 + 6 * u) 1 = Z (4 + 6 * u) 1 → Q (some (.int (-10 - nI (teP (R 2) sz (decide (u = 1))).1))) n (co R1 W (uZ Z1 1 1 (nI 0)) T kn h0)) (hOk : ∀ u, u ≤ 1 → x = nI u → (teP (R 2) sz (decide (u = 1))).2.1 = false → ∀ R1 Z1 : Nat → Nat → Int32, (∀ a, a ≠ 5 + 6 * u → a ≠ 7 + 6 * u → R1 a = R a) → (∀ b j, b ≠ 3 + 6 * u → b ≠ 4 + 6 * u → b ≠ 6 + 6 * u → Z1 b j = Z b j) → (∀ k, k < (teP (R 2) sz (decide (u = 1))).2.2.length → R1 (5 + 6 * u) k = nI ((teP (R 2) sz (decide (u = 1))).2.2.getD k 0)) → Z1 (4 + 6 * u) 1 = nI (teP (R 2) sz (decide (u = 1))).2.2.length → Q (some (.int (nI 1))) n (co R1 W (uZ Z1 1 1 (nI 0)) T (fgK u kn) h0)) : Ct l M_F_text (d + 53) 0 0 [.ref 0, .int x] n (co R W Z T kn h0) Q := by
  refine Ct.of (fun _ => trivial) (by decide) (Nat.le_of_ble_eq_true rfl) ?_
  refine V.iload_n d_F_text_0 rfl ?_
  refine V.iconst_ (nI 1) d_F_text_1 (by decide +kernel) ?_
  refine V.callS2 d_F_text_2 k_F_94_F_withinS (Nat.le_of_ble_eq_true rfl) (by omega) (by omega) (c_F_within ?_)
  refine V.ifneB (tgt := 14) d_F_text_5 (by decide) (fun c_5 => ?_) (fun c_5 => ?_)
  · skip
    refine V.iload_n d_F_text_14 rfl ?_
    refine V.if_ne (tgt := 25) d_F_text_15 (by decide) (fun c_15 => ?_) (fun c_15 => ?_)
    · skip
      refine V.aload_n d_F_text_25 rfl ?_
      refine V.get d_F_text_26 f_F_31_F (co_s sc_ob) rfl ?_
      have hxu : x = nI 1 := by
        obtain ⟨q, hq, rfl⟩ := wi_nat (k := 1) (by decide) c_5
        rcases (show q = 0 ∨ q = 1 by omega) with rfl | rfl
        · exact absurd rfl c_15
        · rfl
      refine V.callV0 d_F_text_29 k_F_187_Text_read_TextV (co_s (sc_tx (tx_ds 1 (by decide)).1)) (Nat.le_of_ble_eq_true rfl) (by omega) (by omega) (c_Text_read (u := 1) (by decide) hsz hz hBy hT (fun hf R1 Z1 hR1 hZ1 hr5 hz4 => ?_) (fun hf R1 Z1 hR1 hZ1 hr5 hz4 => ?_))
      · skip
        refine V.istore_n d_F_text_32 (by decide) ?_
        refine V.aload_n d_F_text_33 rfl ?_
        refine V.get d_F_text_34 f_F_14_F (co_s sc_ob) rfl ?_
        refine V.callV0 d_F_text_37 k_F_190_Row_clear_RowV (co_s (sc_rw rfl)) (Nat.le_of_ble_eq_true rfl) (by omega) (by omega) (c_Row_clear rfl ?_)
        refine V.iload_n d_F_text_40 rfl ?_
        refine V.if_ge (tgt := 48) d_F_text_41 (by decide) (fun c_41 => ?_) (fun c_41 => ?_)
        · skip
          refine V.bipush_ (-10) d_F_text_48 (by decide +kernel) ?_
          refine V.iload_n d_F_text_50 rfl ?_
          refine V.isub d_F_text_51 ?_
          refine V.iret d_F_text_52 rfl (by omega) (by omega) ?_
          exact hF 1 (by decide) hxu hf R1 Z1 hR1 hZ1 hr5 hz4
        · skip
          exact absurd ((nI_leI (a := 0) (by decide) (by have := teP_le (f := R 2) (sz := sz) (wd := decide (1 = 1)); omega)).mpr (Nat.zero_le _)) c_41
      · skip
        refine V.istore_n d_F_text_32 (by decide) ?_
        refine V.aload_n d_F_text_33 rfl ?_
        refine V.get d_F_text_34 f_F_14_F (co_s sc_ob) rfl ?_
        refine V.callV0 d_F_text_37 k_F_190_Row_clear_RowV (co_s (sc_rw rfl)) (Nat.le_of_ble_eq_true rfl) (by omega) (by omega) (c_Row_clear rfl ?_)
        refine V.iload_n d_F_text_40 rfl ?_
        refine V.if_ge (tgt := 48) d_F_text_41 (by decide) (fun c_41 => ?_) (fun c_41 => ?_)
        · skip
          exact absurd c_41 (by decide)
        · skip
          refine V.iconst_ (nI 1) d_F_text_44 (by decide +kernel) ?_
          refine V.goto (tgt := 52) d_F_text_45 (by decide) ?_
          refine V.iret d_F_text_52 rfl (by omega) (by omega) ?_
          exact hOk 1 (by decide) hxu hf R1 Z1 hR1 hZ1 hr5 hz4
    · skip
      refine V.aload_n d_F_text_18 rfl ?_
      refine V.get d_F_text_19 f_F_25_F (co_s sc_ob) rfl ?_
      refine V.goto (tgt := 29) d_F_text_22 (by decide) ?_
      have hxu : x = nI 0 := c_15
      refine V.callV0 d_F_text_29 k_F_187_Text_read_TextV (co_s (sc_tx (tx_ds 0 (by decide)).1)) (Nat.le_of_ble_eq_true rfl) (by omega) (by omega) (c_Text_read (u := 0) (by decide) hsz hz hBy hT (fun hf R1 Z1 hR1 hZ1 hr5 hz4 => ?_) (fun hf R1 Z1 hR1 hZ1 hr5 hz4 => ?_))
      · skip
        refine V.istore_n d_F_text_32 (by decide) ?_
        refine V.aload_n d_F_text_33 rfl ?_
        refine V.get d_F_text_34 f_F_14_F (co_s sc_ob) rfl ?_
        refine V.callV0 d_F_text_37 k_F_190_Row_clear_RowV (co_s (sc_rw rfl)) (Nat.le_of_ble_eq_true rfl) (by omega) (by omega) (c_Row_clear rfl ?_)
        refine V.iload_n d_F_text_40 rfl ?_
        refine V.if_ge (tgt := 48) d_F_text_41 (by decide) (fun c_41 => ?_) (fun c_41 => ?_)
        · skip
          refine V.bipush_ (-10) d_F_text_48 (by decide +kernel) ?_
          refine V.iload_n d_F_text_50 rfl ?_
          refine V.isub d_F_text_51 ?_
          refine V.iret d_F_text_52 rfl (by omega) (by omega) ?_
          exact hF 0 (by decide) hxu hf R1 Z1 hR1 hZ1 hr5 hz4
        · skip
          exact absurd ((nI_leI (a := 0) (by decide) (by have := teP_le (f := R 2) (sz := sz) (wd := decide (0 = 1)); omega)).mpr (Nat.zero_le _)) c_41
      · skip
        refine V.istore_n d_F_text_32 (by decide) ?_
        refine V.aload_n d_F_text_33 rfl ?_
        refine V.get d_F_text_34 f_F_14_F (co_s sc_ob) rfl ?_
        refine V.callV0 d_F_text_37 k_F_190_Row_clear_RowV (co_s (sc_rw rfl)) (Nat.le_of_ble_eq_true rfl) (by omega) (by omega) (c_Row_clear rfl ?_)
        refine V.iload_n d_F_text_40 rfl ?_
        refine V.if_ge (tgt := 48) d_F_text_41 (by decide) (fun c_41 => ?_) (fun c_41 => ?_)
        · skip
          exact absurd c_41 (by decide)
        · skip
          refine V.iconst_ (nI 1) d_F_text_44 (by decide +kernel) ?_
          refine V.goto (tgt := 52) d_F_text_45 (by decide) ?_
          refine V.iret d_F_text_52 rfl (by omega) (by omega) ?_
          exact hOk 0 (by decide) hxu hf R1 Z1 hR1 hZ1 hr5 hz4
  · skip
    refine V.aload_n d_F_text_8 rfl ?_
    refine V.iconst_ (nI 1) d_F_text_9 (by decide +kernel) ?_
    refine V.callV1 d_F_text_10 k_F_97_F_error_FV (co_s sc_ob) (Nat.le_of_ble_eq_true rfl) (by omega) (by omega) (c_F_error (by decide) ?_)
    refine V.iret d_F_text_13 rfl (by omega) (by omega) ?_
    exact hE c_5
