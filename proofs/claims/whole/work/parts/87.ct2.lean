def bgk (i k : Nat) (r : Nat → Int32) : Nat → Int32 := fun j => if j < k then (txb.getD i []).getD j 0 else r j
theorem bgk_0 {i : Nat} {r : Nat → Int32} : bgk i 0 r = r := by funext j; exact if_neg (Nat.not_lt_zero _)
theorem bgk_s {i k : Nat} {r : Nat → Int32} : upd (bgk i k r) k ((txb.getD i []).getD k 0) = bgk i (k + 1) r := by
  funext j
  by_cases e : j = k
  · subst e; rw [pk_us]; exact (if_pos (by omega)).symm
  · rw [pk_un e]
    unfold bgk
    by_cases h2 : j < k
    · rw [if_pos h2, if_pos (by omega)]
    · rw [if_neg h2, if_neg (by omega)]
theorem txl_3 : ∀ i, i < 10 → txl.getD i 0 ≤ 3 := by decide +kernel
theorem txb_b : ∀ i, i < 10 → ∀ j, j < txl.getD i 0 → ((txb.getD i []).getD j 0).toNatClampNeg < 256 ∧ (txb.getD i []).getD j 0 = nI ((txb.getD i []).getD j 0).toNatClampNeg := by decide +kernel
abbrev M_Text_begin : MD := (⟨"FelledByNames$Text", "begin", "(Ljava/lang/String;)V"⟩, prog_9_method_2_code, 3, none, fun _ => True)
theorem d_Text_begin_0 : decode prog_9_method_2_code 0 = .ok (.iconst 0, 1) := by decide +kernel
theorem d_Text_begin_1 : decode prog_9_method_2_code 1 = .ok (.istore_n 2, 1) := by decide +kernel
theorem d_Text_begin_2 : decode prog_9_method_2_code 2 = .ok (.iload_n 2, 1) := by decide +kernel
theorem d_Text_begin_3 : decode prog_9_method_2_code 3 = .ok (.aload_n 1, 1) := by decide +kernel
theorem d_Text_begin_4 : decode prog_9_method_2_code 4 = .ok (.invokevirtual 54, 3) := by decide +kernel
theorem k_Text_54_Str_lengthK : kK "FelledByNames$Text" 54 M_Str_length 0 := ⟨kB_Str_length, tm 236 (by decide +kernel) rfl, tm 237 (by decide +kernel) rfl, tm 238 (by decide +kernel) rfl, rfl⟩
theorem d_Text_begin_7 : decode prog_9_method_2_code 7 = .ok (.if_icmp .ge 21, 3) := by decide +kernel
theorem d_Text_begin_28 : decode prog_9_method_2_code 28 = .ok (.aload_n 0, 1) := by decide +kernel
theorem d_Text_begin_29 : decode prog_9_method_2_code 29 = .ok (.invokevirtual 67, 3) := by decide +kernel
theorem k_Text_67_Text_read_TextV : kV "FelledByNames$Text" 67 3 M_Text_read 0 := ⟨kB_Text_read, tm 285 (by decide +kernel) rfl, tm 286 (by decide +kernel) rfl, tm 287 (by decide +kernel) rfl, _, rfl, rfl⟩
theorem d_Text_begin_32 : decode prog_9_method_2_code 32 = .ok (.pop, 1) := by decide +kernel
theorem d_Text_begin_33 : decode prog_9_method_2_code 33 = .ok (.aload_n 0, 1) := by decide +kernel
theorem d_Text_begin_34 : decode prog_9_method_2_code 34 = .ok (.getfield 41, 3) := by decide +kernel
theorem d_Text_begin_37 : decode prog_9_method_2_code 37 = .ok (.invokevirtual 70, 3) := by decide +kernel
theorem d_Text_begin_40 : decode prog_9_method_2_code 40 = .ok (.return_, 1) := by decide +kernel
theorem d_Text_begin_10 : decode prog_9_method_2_code 10 = .ok (.aload_n 0, 1) := by decide +kernel
theorem d_Text_begin_11 : decode prog_9_method_2_code 11 = .ok (.getfield 41, 3) := by decide +kernel
theorem d_Text_begin_14 : decode prog_9_method_2_code 14 = .ok (.aload_n 1, 1) := by decide +kernel
theorem d_Text_begin_15 : decode prog_9_method_2_code 15 = .ok (.iload_n 2, 1) := by decide +kernel
theorem d_Text_begin_16 : decode prog_9_method_2_code 16 = .ok (.invokevirtual 60, 3) := by decide +kernel
theorem kB_Str_charAt : kB M_Str_charAt 1 := ⟨tm 7 (by decide +kernel) rfl, tm 249 (by decide +kernel) rfl, ⟨by decide, by decide, by decide +kernel⟩, by decide⟩
theorem k_Text_60_Str_charAtK : kK "FelledByNames$Text" 60 M_Str_charAt 1 := ⟨kB_Str_charAt, tm 246 (by decide +kernel) rfl, tm 247 (by decide +kernel) rfl, tm 248 (by decide +kernel) rfl, rfl⟩
theorem d_Text_begin_19 : decode prog_9_method_2_code 19 = .ok (.invokevirtual 64, 3) := by decide +kernel
theorem d_Text_begin_22 : decode prog_9_method_2_code 22 = .ok (.iinc 2 1, 3) := by decide +kernel
theorem d_Text_begin_25 : decode prog_9_method_2_code 25 = .ok (.goto (-23), 3) := by decide +kernel
set_option maxRecDepth 100000 in
theorem c_Text_beginQ {u i : Nat} {l : Launch} {d n : Nat} {R W Z : Nat → Nat → Int32} {T : Nat → Nat → Nat} {kn : Kn} {h0 : HP} {Q : QT} (hu : u < 2) (hi : i < 10) (hz : Z 1 1 = nI 0) (hT : TIQ T kn n) (hne : (teP (bgk i (txl.getD i 0) (R 2)) (txl.getD i 0) (decide (u = 1))).2.1 = false) (hQ : ∀ R1 Z1 : Nat → Nat → Int32, (∀ a, a ≠ 5 + 6 * u → a ≠ 7 + 6 * u → R1 a = uA R 2 (bgk i (txl.getD i 0) (R 2)) a) → (∀ b j, b ≠ 3 + 6 * u → b ≠ 4 + 6 * u → b ≠ 6 + 6 * u → Z1 b j = uZ Z 1 1 (nI (txl.getD i 0)) b j) → (∀ k, k < (teP (bgk i (txl.getD i 0) (R 2)) (txl.getD i 0) (decide (u = 1))).2.2.length → R1 (5 + 6 * u) k = nI ((teP (bgk i (txl.getD i 0) (R 2)) (txl.getD i 0) (decide (u = 1))).2.2.getD k 0)) → Z1 (4 + 6 * u) 1 = nI (teP (bgk i (txl.getD i 0) (R 2)) (txl.getD i 0) (decide (u = 1))).2.2.length → Q none n (coQ R1 W (uZ Z1 1 1 (nI 0)) T (fgK u kn) h0)) : Ct l M_Text_begin (d + 53) 0 0 [.ref (3 + 6 * u), .float (UInt32.ofNat i)] n (coQ R W Z T kn h0) Q := by
  refine Ct.of (fun _ => trivial) (by decide) (Nat.le_of_ble_eq_true rfl) ?_
  have h3 := txl_3 i hi
  refine V.iconst_ (nI 0) d_Text_begin_0 (by decide +kernel) ?_
  refine V.istore_n d_Text_begin_1 (by decide) ?_
  refine V.lc (ls' := [(0, .ref (3 + 6 * u)), (1, .float (UInt32.ofNat i)), (2, .int (nI 0))]) rfl ?_
  refine V.eqH (h' := coQ (uA R 2 (bgk i 0 (R 2))) W (uZ Z 1 1 (nI 0)) T kn h0) (by rw [bgk_0, uA_id, ← hz, uZ_id]) ?_
  refine up_to (G := fun k => V l M_Text_begin (d + 53) 0 0 2 [(0, .ref (3 + 6 * u)), (1, .float (UInt32.ofNat i)), (2, .int (nI k))] [] n (coQ (uA R 2 (bgk i k (R 2))) W (uZ Z 1 1 (nI k)) T kn h0) 0 0 Q) ((txl.getD i 0)) ?_ (fun k hk hn => ?_) 0 (by omega)
  · skip
    refine V.iload_n d_Text_begin_2 rfl ?_
    refine V.aloadK_n d_Text_begin_3 rfl ?_
    refine V.callK0 d_Text_begin_4 k_Text_54_Str_lengthK hi (Nat.le_of_ble_eq_true rfl) (by omega) (by omega) (c_Str_length hi ?_)
    refine V.geN (tgt := 28) d_Text_begin_7 (by decide) (by omega) (by omega) (fun c_7 => ?_) (fun c_7 => ?_)
    · skip
      refine V.aload_n d_Text_begin_28 rfl ?_
      refine V.callV0 d_Text_begin_29 k_Text_67_Text_read_TextV (co_sQ (sc_txQ (tx_dsQ u hu).1)) (Nat.le_of_ble_eq_true rfl) (by omega) (by omega) (c_Text_readQ (sz := txl.getD i 0) hu (by omega) uZ_s (fun j hj => ?_) hT (fun hf R1 Z1 hR1 hZ1 hr5 hz4 => ?_) (fun hf R1 Z1 hR1 hZ1 hr5 hz4 => ?_))
      · exact ⟨_, (txb_b i hi j hj).1, by rw [uA_s]; exact (if_pos hj).trans (txb_b i hi j hj).2⟩
      · rw [uA_s, hne] at hf; cases hf
      rw [uA_s] at hr5 hz4
      refine V.pop rfl d_Text_begin_32 ?_
      refine V.aload_n d_Text_begin_33 rfl ?_
      refine V.get d_Text_begin_34 f_Text_41_Text (co_sQ (sc_txQ (tx_dsQ u hu).1)) rfl ?_
      refine V.callV0 d_Text_begin_37 k_Text_70_Row_clear_RowV (co_sQ (sc_rwQ rfl)) (Nat.le_of_ble_eq_true rfl) (by omega) (by omega) (c_Row_clearQ (a := 1) rfl ?_)
      refine V.vret d_Text_begin_40 rfl (by omega) (by omega) ?_
      exact hQ R1 Z1 hR1 hZ1 hr5 hz4
    · skip
      exact absurd c_7 (by omega)
  · skip
    refine V.iload_n d_Text_begin_2 rfl ?_
    refine V.aloadK_n d_Text_begin_3 rfl ?_
    refine V.callK0 d_Text_begin_4 k_Text_54_Str_lengthK hi (Nat.le_of_ble_eq_true rfl) (by omega) (by omega) (c_Str_length hi ?_)
    refine V.geN (tgt := 28) d_Text_begin_7 (by decide) (by omega) (by omega) (fun c_7 => ?_) (fun c_7 => ?_)
    · skip
      exact absurd c_7 (by omega)
    · skip
      refine V.aload_n d_Text_begin_10 rfl ?_
      refine V.get d_Text_begin_11 f_Text_41_Text (co_sQ (sc_txQ (tx_dsQ u hu).1)) rfl ?_
      refine V.aloadK_n d_Text_begin_14 rfl ?_
      refine V.iload_n d_Text_begin_15 rfl ?_
      refine V.callK1 d_Text_begin_16 k_Text_60_Str_charAtK hi (Nat.le_of_ble_eq_true rfl) (by omega) (by omega) (c_Str_charAt (j := k) hi (by omega) ?_)
      refine V.callV1 d_Text_begin_19 k_Text_64_Row_add_RowV (co_sQ (sc_rwQ rfl)) (Nat.le_of_ble_eq_true rfl) (by omega) (by omega) (c_Row_addQ (a := 1) (N := 50) (sz := k) rfl rfl uZ_s (by omega) (by decide) (fun _ => ?_) (fun z => absurd z (by omega)))
      refine V.incN d_Text_begin_22 rfl (by decide) ?_
      refine V.goto (tgt := 2) d_Text_begin_25 (by decide) ?_
      rw [uA_s, uA_uu, uZ_uu, bgk_s]
      exact V.lc rfl hn
