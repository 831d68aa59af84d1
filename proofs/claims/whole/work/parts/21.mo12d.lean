abbrev M_Mo_law : MD := (⟨"FelledByNamesModel", "law", "(IIII)I"⟩, prog_14_method_32_code, 5, (some .int), fun _ => True)
theorem d_Mo_law_0 : decode prog_14_method_32_code 0 = .ok (.iload_n 1, 1) := by decide +kernel
theorem d_Mo_law_1 : decode prog_14_method_32_code 1 = .ok (.i2l, 1) := by decide +kernel
theorem d_Mo_law_2 : decode prog_14_method_32_code 2 = .ok (.lconst 0, 1) := by decide +kernel
theorem d_Mo_law_3 : decode prog_14_method_32_code 3 = .ok (.lconst 1, 1) := by decide +kernel
theorem d_Mo_law_4 : decode prog_14_method_32_code 4 = .ok (.invokestatic 56, 3) := by decide +kernel
theorem d_Mo_law_7 : decode prog_14_method_32_code 7 = .ok (.ifCond .eq 15, 3) := by decide +kernel
theorem d_Mo_law_22 : decode prog_14_method_32_code 22 = .ok (.aload_n 0, 1) := by decide +kernel
theorem d_Mo_law_23 : decode prog_14_method_32_code 23 = .ok (.iconst 1, 1) := by decide +kernel
theorem d_Mo_law_24 : decode prog_14_method_32_code 24 = .ok (.invokevirtual 138, 3) := by decide +kernel
theorem d_Mo_law_27 : decode prog_14_method_32_code 27 = .ok (.ireturn, 1) := by decide +kernel
theorem d_Mo_law_10 : decode prog_14_method_32_code 10 = .ok (.aload_n 0, 1) := by decide +kernel
theorem d_Mo_law_11 : decode prog_14_method_32_code 11 = .ok (.iload_n 1, 1) := by decide +kernel
theorem d_Mo_law_12 : decode prog_14_method_32_code 12 = .ok (.iload_n 2, 1) := by decide +kernel
theorem d_Mo_law_13 : decode prog_14_method_32_code 13 = .ok (.iload_n 3, 1) := by decide +kernel
theorem d_Mo_law_14 : decode prog_14_method_32_code 14 = .ok (.iload 4, 2) := by decide +kernel
theorem d_Mo_law_16 : decode prog_14_method_32_code 16 = .ok (.invokevirtual 154, 3) := by decide +kernel
theorem d_Mo_law_19 : decode prog_14_method_32_code 19 = .ok (.goto 8, 3) := by decide +kernel
set_option maxRecDepth 100000 in
theorem c_Mo_law {x a b c : Int32} {N fm len0 len1 : Nat} {W0 W1 : Nat → Nat} {l : Launch} {d q n : Nat} {D : Nat → Int32} {A : Nat → Nat → Int32} {S : Nat → Int32} {h0 : HP} {Q : QT} (hN : N ≤ 8) (hD : DW D N W0 len0 W1 len1) (hf : fm < 2 ^ 25) (ef : S 18 = nI fm) (hE : wi x (nI 0) (nI 1) = false → Q (some (.int (-1000000000 - nI 1))) n (mo q D (uA A 3 (upd (A 3) 1 (A 3 1 + nI 1))) S h0)) (hOk : ∀ u, u ≤ 1 → x = nI u → ∀ (A1 : Nat → Nat → Int32), (∀ j, j ≠ 4 → j ≠ 6 → A1 j = A j) → Q (some (.int (if u = 0 then tgv 0 W0 len0 a b c else tgv 1 W1 len1 a b c))) n (mo q D A1 S h0)) : Ct l M_Mo_law (d + 3) 0 0 [.ref q, .int x, .int a, .int b, .int c] n (mo q D A S h0) Q := by
  refine Ct.of (fun _ => trivial) (by decide) (Nat.le_of_ble_eq_true rfl) ?_
  refine V.iload_n d_Mo_law_0 rfl ?_
  refine V.i2l d_Mo_law_1 ?_
  refine V.lconst_ ((nI 0).toInt64) d_Mo_law_2 (by decide +kernel) ?_
  refine V.lconst_ ((nI 1).toInt64) d_Mo_law_3 (by decide +kernel) ?_
  refine V.callS3 d_Mo_law_4 k_Mo_56_Mo_inS (Nat.le_of_ble_eq_true rfl) (by omega) (by omega) (c_Mo_in ?_)
  refine V.ifeqB (tgt := 22) d_Mo_law_7 (by decide) (fun c_7 => ?_) (fun c_7 => ?_)
  · skip
    refine V.aload_n d_Mo_law_22 rfl ?_
    refine V.iconst_ (nI 1) d_Mo_law_23 (by decide +kernel) ?_
    refine V.callV1 d_Mo_law_24 k_Mo_138_Mo_finds_MoV mo_o (Nat.le_of_ble_eq_true rfl) (by omega) (by omega) (c_Mo_finds (by omega) ?_)
    refine V.iret d_Mo_law_27 rfl (Nat.le_of_ble_eq_true rfl) (Nat.le_of_ble_eq_true rfl) ?_
    exact hE c_7
  · skip
    obtain ⟨u, hu, rfl⟩ := wi_nat (by decide) c_7
    rcases (show u = 0 ∨ u = 1 by omega) with rfl | rfl
    · have hCu := hD.2.2.1
      refine V.aload_n d_Mo_law_10 rfl ?_
      refine V.iload_n d_Mo_law_11 rfl ?_
      refine V.iload_n d_Mo_law_12 rfl ?_
      refine V.iload_n d_Mo_law_13 rfl ?_
      refine V.iload d_Mo_law_14 rfl ?_
      refine V.callV4 d_Mo_law_16 k_Mo_154_Mo_textGives_MoV mo_o (Nat.le_of_ble_eq_true rfl) (by omega) (by omega) (c_Mo_textGives (by omega) hCu (fun A1 r1 hA1 er1 => ?_))
      refine V.goto (tgt := 27) d_Mo_law_19 (by decide) ?_
      refine V.iret d_Mo_law_27 rfl (Nat.le_of_ble_eq_true rfl) (Nat.le_of_ble_eq_true rfl) ?_
      have hOk' := hOk 0 (by omega) rfl A1 hA1
      rw [if_pos rfl] at hOk'
      subst er1
      exact hOk'
    · have hCu := hD.2.2.2.1
      refine V.aload_n d_Mo_law_10 rfl ?_
      refine V.iload_n d_Mo_law_11 rfl ?_
      refine V.iload_n d_Mo_law_12 rfl ?_
      refine V.iload_n d_Mo_law_13 rfl ?_
      refine V.iload d_Mo_law_14 rfl ?_
      refine V.callV4 d_Mo_law_16 k_Mo_154_Mo_textGives_MoV mo_o (Nat.le_of_ble_eq_true rfl) (by omega) (by omega) (c_Mo_textGives (by omega) hCu (fun A1 r1 hA1 er1 => ?_))
      refine V.goto (tgt := 27) d_Mo_law_19 (by decide) ?_
      refine V.iret d_Mo_law_27 rfl (Nat.le_of_ble_eq_true rfl) (Nat.le_of_ble_eq_true rfl) ?_
      have hOk' := hOk 1 (by omega) rfl A1 hA1
      rw [if_neg (by decide)] at hOk'
      subst er1
      exact hOk'
def fdb (w : Int64) (k : Nat) : Int32 := ((w >>> ((nI (8 * k)).toInt64 &&& 63)) &&& (nI 255).toInt64).toInt32
def fdD (w : Int64) (t : Nat) (D : Nat → Int32) : Nat → Nat → Int32 := fun k => itr (fun k E => upd (upd E (228 + (t + k)) (fdb w k)) 6 (nI (t + k + 1))) k (upd D 6 (nI t))
theorem fdD_s {w : Int64} {t k : Nat} {D : Nat → Int32} : fdD w t D (k + 1) = upd (upd (fdD w t D k) (228 + (t + k)) (fdb w k)) 6 (nI (t + k + 1)) := rfl
theorem fdD_6 {w : Int64} {t : Nat} {D : Nat → Int32} : ∀ k, fdD w t D k 6 = nI (t + k) := by
  intro k
  cases k with
  | zero => rfl
  | succ k => rw [fdD_s, pk_us, Nat.add_assoc]
abbrev M_Mo_feed : MD := (⟨"FelledByNamesModel", "feed", "(JI)I"⟩, prog_14_method_29_code, 5, (some .int), fun _ => True)
theorem d_Mo_feed_0 : decode prog_14_method_29_code 0 = .ok (.iload_n 3, 1) := by decide +kernel
theorem d_Mo_feed_1 : decode prog_14_method_29_code 1 = .ok (.i2l, 1) := by decide +kernel
theorem d_Mo_feed_2 : decode prog_14_method_29_code 2 = .ok (.lconst 1, 1) := by decide +kernel
theorem d_Mo_feed_3 : decode prog_14_method_29_code 3 = .ok (.ldc2_w 136, 3) := by decide +kernel
theorem d_Mo_feed_6 : decode prog_14_method_29_code 6 = .ok (.invokestatic 56, 3) := by decide +kernel
theorem d_Mo_feed_9 : decode prog_14_method_29_code 9 = .ok (.ifCond .ne 9, 3) := by decide +kernel
theorem d_Mo_feed_18 : decode prog_14_method_29_code 18 = .ok (.aload_n 0, 1) := by decide +kernel
theorem d_Mo_feed_19 : decode prog_14_method_29_code 19 = .ok (.getfield 7, 3) := by decide +kernel
theorem d_Mo_feed_22 : decode prog_14_method_29_code 22 = .ok (.bipush 6, 2) := by decide +kernel
theorem d_Mo_feed_24 : decode prog_14_method_29_code 24 = .ok (.iaload, 1) := by decide +kernel
theorem d_Mo_feed_25 : decode prog_14_method_29_code 25 = .ok (.iload_n 3, 1) := by decide +kernel
theorem d_Mo_feed_26 : decode prog_14_method_29_code 26 = .ok (.iadd, 1) := by decide +kernel
theorem d_Mo_feed_27 : decode prog_14_method_29_code 27 = .ok (.bipush 50, 2) := by decide +kernel
theorem d_Mo_feed_29 : decode prog_14_method_29_code 29 = .ok (.if_icmp .le 9, 3) := by decide +kernel
theorem d_Mo_feed_38 : decode prog_14_method_29_code 38 = .ok (.iconst 0, 1) := by decide +kernel
theorem d_Mo_feed_39 : decode prog_14_method_29_code 39 = .ok (.istore 4, 2) := by decide +kernel
theorem d_Mo_feed_41 : decode prog_14_method_29_code 41 = .ok (.iload 4, 2) := by decide +kernel
theorem d_Mo_feed_43 : decode prog_14_method_29_code 43 = .ok (.iload_n 3, 1) := by decide +kernel
theorem d_Mo_feed_44 : decode prog_14_method_29_code 44 = .ok (.if_icmp .ge 48, 3) := by decide +kernel
theorem d_Mo_feed_92 : decode prog_14_method_29_code 92 = .ok (.aload_n 0, 1) := by decide +kernel
theorem d_Mo_feed_93 : decode prog_14_method_29_code 93 = .ok (.getfield 7, 3) := by decide +kernel
theorem d_Mo_feed_96 : decode prog_14_method_29_code 96 = .ok (.bipush 6, 2) := by decide +kernel
theorem d_Mo_feed_98 : decode prog_14_method_29_code 98 = .ok (.iaload, 1) := by decide +kernel
theorem d_Mo_feed_99 : decode prog_14_method_29_code 99 = .ok (.ireturn, 1) := by decide +kernel
theorem d_Mo_feed_47 : decode prog_14_method_29_code 47 = .ok (.aload_n 0, 1) := by decide +kernel
theorem d_Mo_feed_48 : decode prog_14_method_29_code 48 = .ok (.getfield 7, 3) := by decide +kernel
theorem d_Mo_feed_51 : decode prog_14_method_29_code 51 = .ok (.sipush 228, 3) := by decide +kernel
theorem d_Mo_feed_54 : decode prog_14_method_29_code 54 = .ok (.aload_n 0, 1) := by decide +kernel
theorem d_Mo_feed_55 : decode prog_14_method_29_code 55 = .ok (.getfield 7, 3) := by decide +kernel
theorem d_Mo_feed_58 : decode prog_14_method_29_code 58 = .ok (.bipush 6, 2) := by decide +kernel
theorem d_Mo_feed_60 : decode prog_14_method_29_code 60 = .ok (.iaload, 1) := by decide +kernel
theorem d_Mo_feed_61 : decode prog_14_method_29_code 61 = .ok (.iadd, 1) := by decide +kernel
theorem d_Mo_feed_62 : decode prog_14_method_29_code 62 = .ok (.lload_n 1, 1) := by decide +kernel
theorem d_Mo_feed_63 : decode prog_14_method_29_code 63 = .ok (.bipush 8, 2) := by decide +kernel
theorem d_Mo_feed_65 : decode prog_14_method_29_code 65 = .ok (.iload 4, 2) := by decide +kernel
theorem d_Mo_feed_67 : decode prog_14_method_29_code 67 = .ok (.imul, 1) := by decide +kernel
theorem d_Mo_feed_68 : decode prog_14_method_29_code 68 = .ok (.lshr, 1) := by decide +kernel
theorem d_Mo_feed_69 : decode prog_14_method_29_code 69 = .ok (.ldc2_w 141, 3) := by decide +kernel
theorem d_Mo_feed_72 : decode prog_14_method_29_code 72 = .ok (.land, 1) := by decide +kernel
theorem d_Mo_feed_73 : decode prog_14_method_29_code 73 = .ok (.l2i, 1) := by decide +kernel
theorem d_Mo_feed_74 : decode prog_14_method_29_code 74 = .ok (.iastore, 1) := by decide +kernel
theorem d_Mo_feed_75 : decode prog_14_method_29_code 75 = .ok (.aload_n 0, 1) := by decide +kernel
theorem d_Mo_feed_76 : decode prog_14_method_29_code 76 = .ok (.getfield 7, 3) := by decide +kernel
theorem d_Mo_feed_79 : decode prog_14_method_29_code 79 = .ok (.bipush 6, 2) := by decide +kernel
theorem d_Mo_feed_81 : decode prog_14_method_29_code 81 = .ok (.dup2, 1) := by decide +kernel
theorem d_Mo_feed_82 : decode prog_14_method_29_code 82 = .ok (.iaload, 1) := by decide +kernel
theorem d_Mo_feed_83 : decode prog_14_method_29_code 83 = .ok (.iconst 1, 1) := by decide +kernel
theorem d_Mo_feed_84 : decode prog_14_method_29_code 84 = .ok (.iadd, 1) := by decide +kernel
theorem d_Mo_feed_85 : decode prog_14_method_29_code 85 = .ok (.iastore, 1) := by decide +kernel
theorem d_Mo_feed_86 : decode prog_14_method_29_code 86 = .ok (.iinc 4 1, 3) := by decide +kernel
theorem d_Mo_feed_89 : decode prog_14_method_29_code 89 = .ok (.goto (-48), 3) := by decide +kernel
theorem d_Mo_feed_32 : decode prog_14_method_29_code 32 = .ok (.aload_n 0, 1) := by decide +kernel
theorem d_Mo_feed_33 : decode prog_14_method_29_code 33 = .ok (.iconst 4, 1) := by decide +kernel
theorem d_Mo_feed_34 : decode prog_14_method_29_code 34 = .ok (.invokevirtual 138, 3) := by decide +kernel
theorem d_Mo_feed_37 : decode prog_14_method_29_code 37 = .ok (.ireturn, 1) := by decide +kernel
theorem d_Mo_feed_12 : decode prog_14_method_29_code 12 = .ok (.aload_n 0, 1) := by decide +kernel
theorem d_Mo_feed_13 : decode prog_14_method_29_code 13 = .ok (.iconst 1, 1) := by decide +kernel
theorem d_Mo_feed_14 : decode prog_14_method_29_code 14 = .ok (.invokevirtual 138, 3) := by decide +kernel
theorem d_Mo_feed_17 : decode prog_14_method_29_code 17 = .ok (.ireturn, 1) := by decide +kernel
set_option maxRecDepth 100000 in
theorem c_Mo_feed {tp : Nat} {w : Int64} {x : Int32} {l : Launch} {d q n : Nat} {D : Nat → Int32} {A : Nat → Nat → Int32} {S : Nat → Int32} {h0 : HP} {Q : QT} (htp : tp ≤ 50) (et : D 6 = nI tp) (hE : wi x (nI 1) (nI 8) = false → Q (some (.int (-1000000000 - nI 1))) n (mo q D (uA A 3 (upd (A 3) 1 (A 3 1 + nI 1))) S h0)) (hF : ∀ k, 1 ≤ k → k ≤ 8 → x = nI k → 50 < tp + k → Q (some (.int (-1000000000 - nI 4))) n (mo q D (uA A 3 (upd (A 3) 4 (A 3 4 + nI 1))) S h0)) (hOk : ∀ k, 1 ≤ k → k ≤ 8 → x = nI k → tp + k ≤ 50 → Q (some (.int (nI (tp + k)))) n (mo q (fdD w tp D k) A S h0)) : Ct l M_Mo_feed (d + 1) 0 0 [.ref q, .long w, .int x] n (mo q D A S h0) Q := by
  refine Ct.of (fun _ => trivial) (by decide) (Nat.le_of_ble_eq_true rfl) ?_
  refine V.iload_n d_Mo_feed_0 rfl ?_
  refine V.i2l d_Mo_feed_1 ?_
  refine V.lconst_ ((nI 1).toInt64) d_Mo_feed_2 (by decide +kernel) ?_
  refine V.ldc2 (v := 8) d_Mo_feed_3 (tm 1142 (by decide +kernel) rfl) ?_
  refine V.eqS (st' := .long ((nI 8).toInt64) :: _) rfl ?_
  refine V.callS3 d_Mo_feed_6 k_Mo_56_Mo_inS (Nat.le_of_ble_eq_true rfl) (by omega) (by omega) (c_Mo_in ?_)
  refine V.ifneB (tgt := 18) d_Mo_feed_9 (by decide) (fun c_9 => ?_) (fun c_9 => ?_)
  · skip
    obtain ⟨k, h1k, hk, rfl⟩ := wi_nat1 (by decide) c_9
    refine V.aload_n d_Mo_feed_18 rfl ?_
    refine V.get d_Mo_feed_19 f_Mo_7_Mo mo_o rfl ?_
    refine V.bipush_ (nI 6) d_Mo_feed_22 (by decide +kernel) ?_
    refine V.mldd d_Mo_feed_24 (by omega) ?_
    refine V.top et ?_
    refine V.iload_n d_Mo_feed_25 rfl ?_
    refine V.addN d_Mo_feed_26 ?_
    refine V.bipush_ (nI 50) d_Mo_feed_27 (by decide +kernel) ?_
    refine V.leN (tgt := 38) d_Mo_feed_29 (by decide) (by omega) (by omega) (fun c_29 => ?_) (fun c_29 => ?_)
    · skip
      refine V.iconst_ (nI 0) d_Mo_feed_38 (by decide +kernel) ?_
      refine V.istore d_Mo_feed_39 (by decide) ?_
      refine V.eqH (h' := mo q (fdD w tp D 0) A S h0) (by show mo q D A S h0 = mo q (upd D 6 (nI tp)) A S h0; rw [← et]; congr 1; funext j; unfold upd; split <;> simp_all) ?_
      refine V.lc (ls' := [(0, .ref q), (1, .long w), (3, .int (nI k)), (4, .int (nI 0))]) rfl ?_
      refine up_to (G := fun m => V l M_Mo_feed (d + 1) 0 0 41 [(0, .ref q), (1, .long w), (3, .int (nI k)), (4, .int (nI m))] [] n (mo q (fdD w tp D m) A S h0) 0 0 Q) (k) ?_ (fun m hm hn => ?_) 0 (by omega)
      · skip
        refine V.iload d_Mo_feed_41 rfl ?_
        refine V.iload_n d_Mo_feed_43 rfl ?_
        refine V.geN (tgt := 92) d_Mo_feed_44 (by decide) (by omega) (by omega) (fun c_44 => ?_) (fun c_44 => ?_)
        · skip
          refine V.aload_n d_Mo_feed_92 rfl ?_
          refine V.get d_Mo_feed_93 f_Mo_7_Mo mo_o rfl ?_
          refine V.bipush_ (nI 6) d_Mo_feed_96 (by decide +kernel) ?_
          refine V.mldd d_Mo_feed_98 (by omega) ?_
          refine V.top (fdD_6 k) ?_
          refine V.iret d_Mo_feed_99 rfl (Nat.le_of_ble_eq_true rfl) (Nat.le_of_ble_eq_true rfl) ?_
          exact hOk k h1k hk rfl (by omega)
        · skip
          exact absurd c_44 (by omega)
      · skip
        rw [fdD_s] at hn
        refine V.iload d_Mo_feed_41 rfl ?_
        refine V.iload_n d_Mo_feed_43 rfl ?_
        refine V.geN (tgt := 92) d_Mo_feed_44 (by decide) (by omega) (by omega) (fun c_44 => ?_) (fun c_44 => ?_)
        · skip
          exact absurd c_44 (by omega)
        · skip
          refine V.aload_n d_Mo_feed_47 rfl ?_
          refine V.get d_Mo_feed_48 f_Mo_7_Mo mo_o rfl ?_
          refine V.sipush_ (nI 228) d_Mo_feed_51 (by decide +kernel) ?_
          refine V.aload_n d_Mo_feed_54 rfl ?_
          refine V.get d_Mo_feed_55 f_Mo_7_Mo mo_o rfl ?_
          refine V.bipush_ (nI 6) d_Mo_feed_58 (by decide +kernel) ?_
          refine V.mldd d_Mo_feed_60 (by omega) ?_
          refine V.top (fdD_6 m) ?_
          refine V.addN d_Mo_feed_61 ?_
          refine V.lload_n d_Mo_feed_62 rfl ?_
          refine V.bipush_ (nI 8) d_Mo_feed_63 (by decide +kernel) ?_
          refine V.iload d_Mo_feed_65 rfl ?_
          refine V.mulN d_Mo_feed_67 ?_
          refine V.lshr d_Mo_feed_68 ?_
          refine V.ldc2 (v := 255) d_Mo_feed_69 (tm 1151 (by decide +kernel) rfl) ?_
          refine V.eqS (st' := .long ((nI 255).toInt64) :: _) rfl ?_
          refine V.land d_Mo_feed_72 ?_
          refine V.l2i d_Mo_feed_73 ?_
          refine V.mstd d_Mo_feed_74 (by omega) ?_
          refine V.aload_n d_Mo_feed_75 rfl ?_
          refine V.get d_Mo_feed_76 f_Mo_7_Mo mo_o rfl ?_
          refine V.bipush_ (nI 6) d_Mo_feed_79 (by decide +kernel) ?_
          refine V.dup2 rfl rfl d_Mo_feed_81 ?_
          refine V.mldd d_Mo_feed_82 (by omega) ?_
          refine V.top (show _ = nI (tp + m) by rw [pk_un (by omega)]; exact fdD_6 m) ?_
          refine V.iconst_ (nI 1) d_Mo_feed_83 (by decide +kernel) ?_
          refine V.addN d_Mo_feed_84 ?_
          refine V.mstd d_Mo_feed_85 (by omega) ?_
          refine V.incN d_Mo_feed_86 rfl (by decide) ?_
          refine V.goto (tgt := 41) d_Mo_feed_89 (by decide) ?_
          exact V.lc rfl hn
    · skip
      refine V.aload_n d_Mo_feed_32 rfl ?_
      refine V.iconst_ (nI 4) d_Mo_feed_33 (by decide +kernel) ?_
      refine V.callV1 d_Mo_feed_34 k_Mo_138_Mo_finds_MoV mo_o (Nat.le_of_ble_eq_true rfl) (by omega) (by omega) (c_Mo_finds (by omega) ?_)
      refine V.iret d_Mo_feed_37 rfl (Nat.le_of_ble_eq_true rfl) (Nat.le_of_ble_eq_true rfl) ?_
      exact hF k h1k hk rfl (by omega)
  · skip
    refine V.aload_n d_Mo_feed_12 rfl ?_
    refine V.iconst_ (nI 1) d_Mo_feed_13 (by decide +kernel) ?_
    refine V.callV1 d_Mo_feed_14 k_Mo_138_Mo_finds_MoV mo_o (Nat.le_of_ble_eq_true rfl) (by omega) (by omega) (c_Mo_finds (by omega) ?_)
    refine V.iret d_Mo_feed_17 rfl (Nat.le_of_ble_eq_true rfl) (Nat.le_of_ble_eq_true rfl) ?_
    exact hE c_9
