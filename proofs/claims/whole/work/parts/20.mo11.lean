def kpD (D : Nat → Int32) (p : Nat) : Nat → Nat → Int32 := fun o => itr (fun o E => if o = p then E else upd (upd E (8 + 6 * p + o) (nI 99)) (8 + 6 * o + p) (nI 99)) o D
theorem kpD_x {D : Nat → Int32} {p j : Nat} (hp : p < 6) (hj : j < 8 ∨ 44 ≤ j) : ∀ o, o ≤ 6 → kpD D p o j = D j := by
  intro o
  induction o with
  | zero => intro _; rfl
  | succ o ih =>
    intro ho
    show (if o = p then kpD D p o else upd (upd (kpD D p o) (8 + 6 * p + o) (nI 99)) (8 + 6 * o + p) (nI 99)) j = D j
    split
    · exact ih (by omega)
    · rw [pk_un (by omega), pk_un (by omega)]; exact ih (by omega)
def kpB (cv wv : Int32 → Int32 → Int32 → Int32) (N : Nat) (D : Nat → Int32) (k : Nat) : Nat → Int32 × Int32 := fun p => itr (fun p bm => if bm.2 < btc (stb (dsD cv wv N k (kpD D p 6)).1 N) then (nI p, btc (stb (dsD cv wv N k (kpD D p 6)).1 N)) else bm) p (nI 0, -1)
abbrev M_Mo_keeper : MD := (⟨"FelledByNamesModel", "keeper", "(II)I"⟩, prog_14_method_64_code, 7, (some .int), fun _ => True)
theorem d_Mo_keeper_0 : decode prog_14_method_64_code 0 = .ok (.iload_n 1, 1) := by decide +kernel
theorem d_Mo_keeper_1 : decode prog_14_method_64_code 1 = .ok (.i2l, 1) := by decide +kernel
theorem d_Mo_keeper_2 : decode prog_14_method_64_code 2 = .ok (.lconst 0, 1) := by decide +kernel
theorem d_Mo_keeper_3 : decode prog_14_method_64_code 3 = .ok (.ldc2_w 240, 3) := by decide +kernel
theorem d_Mo_keeper_6 : decode prog_14_method_64_code 6 = .ok (.invokestatic 56, 3) := by decide +kernel
theorem d_Mo_keeper_9 : decode prog_14_method_64_code 9 = .ok (.ifCond .eq 13, 3) := by decide +kernel
theorem d_Mo_keeper_22 : decode prog_14_method_64_code 22 = .ok (.aload_n 0, 1) := by decide +kernel
theorem d_Mo_keeper_23 : decode prog_14_method_64_code 23 = .ok (.iconst 1, 1) := by decide +kernel
theorem d_Mo_keeper_24 : decode prog_14_method_64_code 24 = .ok (.invokevirtual 138, 3) := by decide +kernel
theorem d_Mo_keeper_27 : decode prog_14_method_64_code 27 = .ok (.ireturn, 1) := by decide +kernel
theorem d_Mo_keeper_12 : decode prog_14_method_64_code 12 = .ok (.iload_n 2, 1) := by decide +kernel
theorem d_Mo_keeper_13 : decode prog_14_method_64_code 13 = .ok (.i2l, 1) := by decide +kernel
theorem d_Mo_keeper_14 : decode prog_14_method_64_code 14 = .ok (.lconst 0, 1) := by decide +kernel
theorem d_Mo_keeper_15 : decode prog_14_method_64_code 15 = .ok (.lconst 1, 1) := by decide +kernel
theorem d_Mo_keeper_16 : decode prog_14_method_64_code 16 = .ok (.invokestatic 56, 3) := by decide +kernel
theorem d_Mo_keeper_19 : decode prog_14_method_64_code 19 = .ok (.ifCond .ne 9, 3) := by decide +kernel
theorem d_Mo_keeper_28 : decode prog_14_method_64_code 28 = .ok (.aload_n 0, 1) := by decide +kernel
theorem d_Mo_keeper_29 : decode prog_14_method_64_code 29 = .ok (.invokevirtual 228, 3) := by decide +kernel
theorem d_Mo_keeper_32 : decode prog_14_method_64_code 32 = .ok (.iconst 0, 1) := by decide +kernel
theorem d_Mo_keeper_33 : decode prog_14_method_64_code 33 = .ok (.istore_n 3, 1) := by decide +kernel
theorem d_Mo_keeper_34 : decode prog_14_method_64_code 34 = .ok (.iconst (-1), 1) := by decide +kernel
theorem d_Mo_keeper_35 : decode prog_14_method_64_code 35 = .ok (.istore 4, 2) := by decide +kernel
theorem d_Mo_keeper_37 : decode prog_14_method_64_code 37 = .ok (.iconst 0, 1) := by decide +kernel
theorem d_Mo_keeper_38 : decode prog_14_method_64_code 38 = .ok (.istore 5, 2) := by decide +kernel
theorem d_Mo_keeper_40 : decode prog_14_method_64_code 40 = .ok (.iload 5, 2) := by decide +kernel
theorem d_Mo_keeper_42 : decode prog_14_method_64_code 42 = .ok (.bipush 6, 2) := by decide +kernel
theorem d_Mo_keeper_44 : decode prog_14_method_64_code 44 = .ok (.if_icmp .ge 92, 3) := by decide +kernel
theorem d_Mo_keeper_136 : decode prog_14_method_64_code 136 = .ok (.iload_n 2, 1) := by decide +kernel
theorem d_Mo_keeper_137 : decode prog_14_method_64_code 137 = .ok (.ifCond .ne 7, 3) := by decide +kernel
theorem d_Mo_keeper_144 : decode prog_14_method_64_code 144 = .ok (.iload 4, 2) := by decide +kernel
theorem d_Mo_keeper_146 : decode prog_14_method_64_code 146 = .ok (.ireturn, 1) := by decide +kernel
theorem d_Mo_keeper_140 : decode prog_14_method_64_code 140 = .ok (.iload_n 3, 1) := by decide +kernel
theorem d_Mo_keeper_141 : decode prog_14_method_64_code 141 = .ok (.goto 5, 3) := by decide +kernel
theorem d_Mo_keeper_47 : decode prog_14_method_64_code 47 = .ok (.iconst 0, 1) := by decide +kernel
theorem d_Mo_keeper_48 : decode prog_14_method_64_code 48 = .ok (.istore 6, 2) := by decide +kernel
theorem d_Mo_keeper_50 : decode prog_14_method_64_code 50 = .ok (.iload 6, 2) := by decide +kernel
theorem d_Mo_keeper_52 : decode prog_14_method_64_code 52 = .ok (.bipush 6, 2) := by decide +kernel
theorem d_Mo_keeper_54 : decode prog_14_method_64_code 54 = .ok (.if_icmp .ge 52, 3) := by decide +kernel
theorem d_Mo_keeper_106 : decode prog_14_method_64_code 106 = .ok (.aload_n 0, 1) := by decide +kernel
theorem d_Mo_keeper_107 : decode prog_14_method_64_code 107 = .ok (.iload_n 1, 1) := by decide +kernel
theorem d_Mo_keeper_108 : decode prog_14_method_64_code 108 = .ok (.invokevirtual 237, 3) := by decide +kernel
theorem d_Mo_keeper_111 : decode prog_14_method_64_code 111 = .ok (.invokestatic 242, 3) := by decide +kernel
theorem d_Mo_keeper_114 : decode prog_14_method_64_code 114 = .ok (.istore 6, 2) := by decide +kernel
theorem d_Mo_keeper_116 : decode prog_14_method_64_code 116 = .ok (.iload 6, 2) := by decide +kernel
theorem d_Mo_keeper_118 : decode prog_14_method_64_code 118 = .ok (.iload 4, 2) := by decide +kernel
theorem d_Mo_keeper_120 : decode prog_14_method_64_code 120 = .ok (.if_icmp .le 10, 3) := by decide +kernel
theorem d_Mo_keeper_130 : decode prog_14_method_64_code 130 = .ok (.iinc 5 1, 3) := by decide +kernel
theorem d_Mo_keeper_133 : decode prog_14_method_64_code 133 = .ok (.goto (-93), 3) := by decide +kernel
theorem d_Mo_keeper_123 : decode prog_14_method_64_code 123 = .ok (.iload 5, 2) := by decide +kernel
theorem d_Mo_keeper_125 : decode prog_14_method_64_code 125 = .ok (.istore_n 3, 1) := by decide +kernel
theorem d_Mo_keeper_126 : decode prog_14_method_64_code 126 = .ok (.iload 6, 2) := by decide +kernel
theorem d_Mo_keeper_128 : decode prog_14_method_64_code 128 = .ok (.istore 4, 2) := by decide +kernel
theorem d_Mo_keeper_57 : decode prog_14_method_64_code 57 = .ok (.iload 6, 2) := by decide +kernel
theorem d_Mo_keeper_59 : decode prog_14_method_64_code 59 = .ok (.iload 5, 2) := by decide +kernel
theorem d_Mo_keeper_61 : decode prog_14_method_64_code 61 = .ok (.if_icmp .eq 39, 3) := by decide +kernel
theorem d_Mo_keeper_100 : decode prog_14_method_64_code 100 = .ok (.iinc 6 1, 3) := by decide +kernel
theorem d_Mo_keeper_103 : decode prog_14_method_64_code 103 = .ok (.goto (-53), 3) := by decide +kernel
theorem d_Mo_keeper_64 : decode prog_14_method_64_code 64 = .ok (.aload_n 0, 1) := by decide +kernel
theorem d_Mo_keeper_65 : decode prog_14_method_64_code 65 = .ok (.getfield 7, 3) := by decide +kernel
theorem d_Mo_keeper_68 : decode prog_14_method_64_code 68 = .ok (.bipush 8, 2) := by decide +kernel
theorem d_Mo_keeper_70 : decode prog_14_method_64_code 70 = .ok (.bipush 6, 2) := by decide +kernel
theorem d_Mo_keeper_72 : decode prog_14_method_64_code 72 = .ok (.iload 5, 2) := by decide +kernel
theorem d_Mo_keeper_74 : decode prog_14_method_64_code 74 = .ok (.imul, 1) := by decide +kernel
theorem d_Mo_keeper_75 : decode prog_14_method_64_code 75 = .ok (.iadd, 1) := by decide +kernel
theorem d_Mo_keeper_76 : decode prog_14_method_64_code 76 = .ok (.iload 6, 2) := by decide +kernel
theorem d_Mo_keeper_78 : decode prog_14_method_64_code 78 = .ok (.iadd, 1) := by decide +kernel
theorem d_Mo_keeper_79 : decode prog_14_method_64_code 79 = .ok (.bipush 99, 2) := by decide +kernel
theorem d_Mo_keeper_81 : decode prog_14_method_64_code 81 = .ok (.iastore, 1) := by decide +kernel
theorem d_Mo_keeper_82 : decode prog_14_method_64_code 82 = .ok (.aload_n 0, 1) := by decide +kernel
theorem d_Mo_keeper_83 : decode prog_14_method_64_code 83 = .ok (.getfield 7, 3) := by decide +kernel
theorem d_Mo_keeper_86 : decode prog_14_method_64_code 86 = .ok (.bipush 8, 2) := by decide +kernel
theorem d_Mo_keeper_88 : decode prog_14_method_64_code 88 = .ok (.bipush 6, 2) := by decide +kernel
theorem d_Mo_keeper_90 : decode prog_14_method_64_code 90 = .ok (.iload 6, 2) := by decide +kernel
theorem d_Mo_keeper_92 : decode prog_14_method_64_code 92 = .ok (.imul, 1) := by decide +kernel
theorem d_Mo_keeper_93 : decode prog_14_method_64_code 93 = .ok (.iadd, 1) := by decide +kernel
theorem d_Mo_keeper_94 : decode prog_14_method_64_code 94 = .ok (.iload 5, 2) := by decide +kernel
theorem d_Mo_keeper_96 : decode prog_14_method_64_code 96 = .ok (.iadd, 1) := by decide +kernel
theorem d_Mo_keeper_97 : decode prog_14_method_64_code 97 = .ok (.bipush 99, 2) := by decide +kernel
theorem d_Mo_keeper_99 : decode prog_14_method_64_code 99 = .ok (.iastore, 1) := by decide +kernel
set_option maxRecDepth 100000 in
theorem c_Mo_keeper {x y : Int32} {N fm len0 len1 : Nat} {W0 W1 : Nat → Nat} {l : Launch} {d q n : Nat} {D : Nat → Int32} {A : Nat → Nat → Int32} {S : Nat → Int32} {h0 : HP} {Q : QT} (hN : N ≤ 8) (hD : DW D N W0 len0 W1 len1) (hf : fm < 2 ^ 25) (ef : S 18 = nI fm) (hE : (wi x (nI 0) (nI 30) && wi y (nI 0) (nI 1)) = false → Q (some (.int (-1000000000 - nI 1))) n (mo q D (uA A 3 (upd (A 3) 1 (A 3 1 + nI 1))) S h0)) (hOk : ∀ k w, k ≤ 30 → w ≤ 1 → x = nI k → y = nI w → ∀ (A1 : Nat → Nat → Int32) (f1 : Nat), (∀ j, j ≠ 2 → j ≠ 4 → j ≠ 6 → j ≠ 7 → j ≠ 8 → j ≠ 9 → A1 j = A j) → f1 ≤ fm + 40000 →  Q (some (.int (if w = 0 then (kpB (tgv 0 W0 len0) (tgv 1 W1 len1) N D k 6).1 else (kpB (tgv 0 W0 len0) (tgv 1 W1 len1) N D k 6).2))) n (mo q D A1 (uS S 18 (nI f1)) h0)) : Ct l M_Mo_keeper (d + 8) 0 0 [.ref q, .int x, .int y] n (mo q D A S h0) Q := by
  refine Ct.of (fun _ => trivial) (by decide) (Nat.le_of_ble_eq_true rfl) ?_
  refine V.iload_n d_Mo_keeper_0 rfl ?_
  refine V.i2l d_Mo_keeper_1 ?_
  refine V.lconst_ ((nI 0).toInt64) d_Mo_keeper_2 (by decide +kernel) ?_
  refine V.ldc2 (v := 30) d_Mo_keeper_3 (tm 1379 (by decide +kernel) rfl) ?_
  refine V.eqS (st' := .long ((nI 30).toInt64) :: _) rfl ?_
  refine V.callS3 d_Mo_keeper_6 k_Mo_56_Mo_inS (Nat.le_of_ble_eq_true rfl) (by omega) (by omega) (c_Mo_in ?_)
  refine V.ifeqB (tgt := 22) d_Mo_keeper_9 (by decide) (fun c_9 => ?_) (fun c_9 => ?_)
  · skip
    refine V.aload_n d_Mo_keeper_22 rfl ?_
    refine V.iconst_ (nI 1) d_Mo_keeper_23 (by decide +kernel) ?_
    refine V.callV1 d_Mo_keeper_24 k_Mo_138_Mo_finds_MoV mo_o (Nat.le_of_ble_eq_true rfl) (by omega) (by omega) (c_Mo_finds (by omega) ?_)
    refine V.iret d_Mo_keeper_27 rfl (Nat.le_of_ble_eq_true rfl) (Nat.le_of_ble_eq_true rfl) ?_
    exact hE (by simp only [c_9, Bool.and_false, Bool.false_and, Bool.and_true, Bool.true_and])
  · skip
    refine V.iload_n d_Mo_keeper_12 rfl ?_
    refine V.i2l d_Mo_keeper_13 ?_
    refine V.lconst_ ((nI 0).toInt64) d_Mo_keeper_14 (by decide +kernel) ?_
    refine V.lconst_ ((nI 1).toInt64) d_Mo_keeper_15 (by decide +kernel) ?_
    refine V.callS3 d_Mo_keeper_16 k_Mo_56_Mo_inS (Nat.le_of_ble_eq_true rfl) (by omega) (by omega) (c_Mo_in ?_)
    refine V.ifneB (tgt := 28) d_Mo_keeper_19 (by decide) (fun c_19 => ?_) (fun c_19 => ?_)
    · skip
      obtain ⟨k, hk, rfl⟩ := wi_nat (by decide) c_9
      obtain ⟨w, hw, rfl⟩ := wi_nat (by decide) c_19
      refine V.aload_n d_Mo_keeper_28 rfl ?_
      refine V.callV0 d_Mo_keeper_29 k_Mo_228_Mo_keepAside_MoV mo_o (Nat.le_of_ble_eq_true rfl) (by omega) (by omega) (c_Mo_keepAside ?_)
      refine V.iconst_ (nI 0) d_Mo_keeper_32 (by decide +kernel) ?_
      refine V.istore_n d_Mo_keeper_33 (by decide) ?_
      refine V.iconst_ (-1) d_Mo_keeper_34 (by decide +kernel) ?_
      refine V.istore d_Mo_keeper_35 (by decide) ?_
      refine V.iconst_ (nI 0) d_Mo_keeper_37 (by decide +kernel) ?_
      refine V.istore d_Mo_keeper_38 (by decide) ?_
      refine V.eqH (h' := mo q D (uA A 2 (cpN 106 D (A 2))) (uS S 18 (nI fm)) h0) (by rw [show uS S 18 (nI fm) = S from uS_18 ef]) ?_
      refine V.lc (ls' := [(0, .ref q), (1, .int (nI k)), (2, .int (nI w)), (3, .int (kpB (tgv 0 W0 len0) (tgv 1 W1 len1) N D k 0).1), (4, .int (kpB (tgv 0 W0 len0) (tgv 1 W1 len1) N D k 0).2), (5, .int (nI 0))]) rfl ?_
      refine up_to (G := fun p => ∀ (A1 : Nat → Nat → Int32) (f1 : Nat), (∀ j, j ≠ 2 → j ≠ 4 → j ≠ 6 → j ≠ 7 → j ≠ 8 → j ≠ 9 → A1 j = A j) → A1 2 = cpN 106 D (A 2) → f1 ≤ fm + 500 * p → V l M_Mo_keeper (d + 8) 0 0 40 [(0, .ref q), (1, .int (nI k)), (2, .int (nI w)), (3, .int (kpB (tgv 0 W0 len0) (tgv 1 W1 len1) N D k p).1), (4, .int (kpB (tgv 0 W0 len0) (tgv 1 W1 len1) N D k p).2), (5, .int (nI p))] [] n (mo q D A1 (uS S 18 (nI f1)) h0) 0 0 Q) (6) ?_ (fun p hp hn => ?_) 0 (by omega) (uA A 2 (cpN 106 D (A 2))) fm (fun j h1 _ _ _ _ _ => uA_n h1) uA_s (by omega)
      · skip
        intro A1 f1 hA1 hA12 hf1
        refine V.iload d_Mo_keeper_40 rfl ?_
        refine V.bipush_ (nI 6) d_Mo_keeper_42 (by decide +kernel) ?_
        refine V.geN (tgt := 136) d_Mo_keeper_44 (by decide) (by omega) (by omega) (fun c_44 => ?_) (fun c_44 => ?_)
        · skip
          refine V.iload_n d_Mo_keeper_136 rfl ?_
          refine V.if_ne (tgt := 144) d_Mo_keeper_137 (by decide) (fun c_137 => ?_) (fun c_137 => ?_)
          · skip
            refine V.iload d_Mo_keeper_144 rfl ?_
            refine V.iret d_Mo_keeper_146 rfl (Nat.le_of_ble_eq_true rfl) (Nat.le_of_ble_eq_true rfl) ?_
            have hOk' := hOk k w hk hw rfl rfl A1 f1 hA1 (by omega)
            first
            | (rw [if_pos ((nI_eq (by omega) (by decide)).mp (show nI w = nI 0 from c_137))] at hOk'; exact hOk')
            | (rw [if_neg (fun z => c_137 (by rw [z]; rfl))] at hOk'; exact hOk')
          · skip
            refine V.iload_n d_Mo_keeper_140 rfl ?_
            refine V.goto (tgt := 146) d_Mo_keeper_141 (by decide) ?_
            refine V.iret d_Mo_keeper_146 rfl (Nat.le_of_ble_eq_true rfl) (Nat.le_of_ble_eq_true rfl) ?_
            have hOk' := hOk k w hk hw rfl rfl A1 f1 hA1 (by omega)
            first
            | (rw [if_pos ((nI_eq (by omega) (by decide)).mp (show nI w = nI 0 from c_137))] at hOk'; exact hOk')
            | (rw [if_neg (fun z => c_137 (by rw [z]; rfl))] at hOk'; exact hOk')
        · skip
          exact absurd c_44 (by omega)
      · skip
        intro A1 f1 hA1 hA12 hf1
        have eS : kpB (tgv 0 W0 len0) (tgv 1 W1 len1) N D k (p + 1) = (if (kpB (tgv 0 W0 len0) (tgv 1 W1 len1) N D k p).2 < btc (stb (dsD (tgv 0 W0 len0) (tgv 1 W1 len1) N k (kpD D p 6)).1 N) then (nI p, btc (stb (dsD (tgv 0 W0 len0) (tgv 1 W1 len1) N k (kpD D p 6)).1 N)) else kpB (tgv 0 W0 len0) (tgv 1 W1 len1) N D k p) := rfl
        rw [eS] at hn
        refine V.iload d_Mo_keeper_40 rfl ?_
        refine V.bipush_ (nI 6) d_Mo_keeper_42 (by decide +kernel) ?_
        refine V.geN (tgt := 136) d_Mo_keeper_44 (by decide) (by omega) (by omega) (fun c_44 => ?_) (fun c_44 => ?_)
        · skip
          exact absurd c_44 (by omega)
        · skip
          refine V.iconst_ (nI 0) d_Mo_keeper_47 (by decide +kernel) ?_
          refine V.istore d_Mo_keeper_48 (by decide) ?_
          refine V.lc (ls' := [(0, .ref q), (1, .int (nI k)), (2, .int (nI w)), (3, .int (kpB (tgv 0 W0 len0) (tgv 1 W1 len1) N D k p).1), (4, .int (kpB (tgv 0 W0 len0) (tgv 1 W1 len1) N D k p).2), (5, .int (nI p)), (6, .int (nI 0))]) rfl ?_
          refine up_to (G := fun o => V l M_Mo_keeper (d + 8) 0 0 50 [(0, .ref q), (1, .int (nI k)), (2, .int (nI w)), (3, .int (kpB (tgv 0 W0 len0) (tgv 1 W1 len1) N D k p).1), (4, .int (kpB (tgv 0 W0 len0) (tgv 1 W1 len1) N D k p).2), (5, .int (nI p)), (6, .int (nI o))] [] n (mo q (kpD D p o) A1 (uS S 18 (nI f1)) h0) 0 0 Q) (6) ?_ (fun o ho hn => ?_) 0 (by omega)
          · skip
            refine V.iload d_Mo_keeper_50 rfl ?_
            refine V.bipush_ (nI 6) d_Mo_keeper_52 (by decide +kernel) ?_
            refine V.geN (tgt := 106) d_Mo_keeper_54 (by decide) (by omega) (by omega) (fun c_54 => ?_) (fun c_54 => ?_)
            · skip
              refine V.aload_n d_Mo_keeper_106 rfl ?_
              refine V.iload_n d_Mo_keeper_107 rfl ?_
              refine V.callV1 d_Mo_keeper_108 k_Mo_237_Mo_standBehind_MoV mo_o (Nat.le_of_ble_eq_true rfl) (by omega) (by omega) (c_Mo_standBehind (fm := f1) hN (hD.up hN (fun j hj => kpD_x hp (by omega) 6 (by omega))) (by omega) uS_s (by omega) (fun A2 hA2 => ?_))
              have hl2 := dsD_len (cv := tgv 0 W0 len0) (wv := tgv 1 W1 len1) hN (D := kpD D p 6) k
              have hbk : cpN 106 (cpN 106 D (A 2)) (dsD (tgv 0 W0 len0) (tgv 1 W1 len1) N k (kpD D p 6)).1 = D := bk (fun j hj => (dsD_x hN (by unfold kpt; omega) k).trans (kpD_x hp (by omega) 6 (by omega)))
              rw [hA12, hbk, uS_uu]
              refine V.callS1 d_Mo_keeper_111 k_Mo_242_Mo_bitsS (Nat.le_of_ble_eq_true rfl) (by omega) (by omega) (c_Mo_bits ?_)
              refine V.istore d_Mo_keeper_114 (by decide) ?_
              refine V.iload d_Mo_keeper_116 rfl ?_
              refine V.iload d_Mo_keeper_118 rfl ?_
              refine V.icmp_le (tgt := 130) d_Mo_keeper_120 (by decide) (fun c_120 => ?_) (fun c_120 => ?_)
              · skip
                refine V.incN d_Mo_keeper_130 rfl (by decide) ?_
                refine V.goto (tgt := 40) d_Mo_keeper_133 (by decide) ?_
                first
                | (rw [if_pos (Int32.not_le.mp c_120)] at hn; exact V.lc rfl (hn A2 _ (fun j h1 h2 h3 h4 h5 h6 => (hA2 j h2 h3 h4 h5 h6).trans (hA1 j h1 h2 h3 h4 h5 h6)) ((hA2 2 (by decide) (by decide) (by decide) (by decide) (by decide)).trans hA12) (by omega)))
                | (rw [if_neg (Int32.not_lt.mpr c_120)] at hn; exact V.lc rfl (hn A2 _ (fun j h1 h2 h3 h4 h5 h6 => (hA2 j h2 h3 h4 h5 h6).trans (hA1 j h1 h2 h3 h4 h5 h6)) ((hA2 2 (by decide) (by decide) (by decide) (by decide) (by decide)).trans hA12) (by omega)))
              · skip
                refine V.iload d_Mo_keeper_123 rfl ?_
                refine V.istore_n d_Mo_keeper_125 (by decide) ?_
                refine V.iload d_Mo_keeper_126 rfl ?_
                refine V.istore d_Mo_keeper_128 (by decide) ?_
                refine V.incN d_Mo_keeper_130 rfl (by decide) ?_
                refine V.goto (tgt := 40) d_Mo_keeper_133 (by decide) ?_
                first
                | (rw [if_pos (Int32.not_le.mp c_120)] at hn; exact V.lc rfl (hn A2 _ (fun j h1 h2 h3 h4 h5 h6 => (hA2 j h2 h3 h4 h5 h6).trans (hA1 j h1 h2 h3 h4 h5 h6)) ((hA2 2 (by decide) (by decide) (by decide) (by decide) (by decide)).trans hA12) (by omega)))
                | (rw [if_neg (Int32.not_lt.mpr c_120)] at hn; exact V.lc rfl (hn A2 _ (fun j h1 h2 h3 h4 h5 h6 => (hA2 j h2 h3 h4 h5 h6).trans (hA1 j h1 h2 h3 h4 h5 h6)) ((hA2 2 (by decide) (by decide) (by decide) (by decide) (by decide)).trans hA12) (by omega)))
            · skip
              exact absurd c_54 (by omega)
          · skip
            refine V.iload d_Mo_keeper_50 rfl ?_
            refine V.bipush_ (nI 6) d_Mo_keeper_52 (by decide +kernel) ?_
            refine V.geN (tgt := 106) d_Mo_keeper_54 (by decide) (by omega) (by omega) (fun c_54 => ?_) (fun c_54 => ?_)
            · skip
              exact absurd c_54 (by omega)
            · skip
              refine V.iload d_Mo_keeper_57 rfl ?_
              refine V.iload d_Mo_keeper_59 rfl ?_
              refine V.eqN (tgt := 100) d_Mo_keeper_61 (by decide) (by omega) (by omega) (fun c_61 => ?_) (fun c_61 => ?_)
              · skip
                refine V.incN d_Mo_keeper_100 rfl (by decide) ?_
                refine V.goto (tgt := 50) d_Mo_keeper_103 (by decide) ?_
                have eP : kpD D p (o + 1) = (if o = p then kpD D p o else upd (upd (kpD D p o) (8 + 6 * p + o) (nI 99)) (8 + 6 * o + p) (nI 99)) := rfl
                rw [eP] at hn
                first
                | (rw [if_pos c_61] at hn; exact V.lc rfl hn)
                | (rw [if_neg c_61] at hn; exact V.lc rfl hn)
              · skip
                refine V.aload_n d_Mo_keeper_64 rfl ?_
                refine V.get d_Mo_keeper_65 f_Mo_7_Mo mo_o rfl ?_
                refine V.bipush_ (nI 8) d_Mo_keeper_68 (by decide +kernel) ?_
                refine V.bipush_ (nI 6) d_Mo_keeper_70 (by decide +kernel) ?_
                refine V.iload d_Mo_keeper_72 rfl ?_
                refine V.mulN d_Mo_keeper_74 ?_
                refine V.addN d_Mo_keeper_75 ?_
                refine V.iload d_Mo_keeper_76 rfl ?_
                refine V.addN d_Mo_keeper_78 ?_
                refine V.bipush_ (nI 99) d_Mo_keeper_79 (by decide +kernel) ?_
                refine V.mstd d_Mo_keeper_81 (by omega) ?_
                refine V.aload_n d_Mo_keeper_82 rfl ?_
                refine V.get d_Mo_keeper_83 f_Mo_7_Mo mo_o rfl ?_
                refine V.bipush_ (nI 8) d_Mo_keeper_86 (by decide +kernel) ?_
                refine V.bipush_ (nI 6) d_Mo_keeper_88 (by decide +kernel) ?_
                refine V.iload d_Mo_keeper_90 rfl ?_
                refine V.mulN d_Mo_keeper_92 ?_
                refine V.addN d_Mo_keeper_93 ?_
                refine V.iload d_Mo_keeper_94 rfl ?_
                refine V.addN d_Mo_keeper_96 ?_
                refine V.bipush_ (nI 99) d_Mo_keeper_97 (by decide +kernel) ?_
                refine V.mstd d_Mo_keeper_99 (by omega) ?_
                refine V.incN d_Mo_keeper_100 rfl (by decide) ?_
                refine V.goto (tgt := 50) d_Mo_keeper_103 (by decide) ?_
                have eP : kpD D p (o + 1) = (if o = p then kpD D p o else upd (upd (kpD D p o) (8 + 6 * p + o) (nI 99)) (8 + 6 * o + p) (nI 99)) := rfl
                rw [eP] at hn
                first
                | (rw [if_pos c_61] at hn; exact V.lc rfl hn)
                | (rw [if_neg c_61] at hn; exact V.lc rfl hn)
    · skip
      refine V.aload_n d_Mo_keeper_22 rfl ?_
      refine V.iconst_ (nI 1) d_Mo_keeper_23 (by decide +kernel) ?_
      refine V.callV1 d_Mo_keeper_24 k_Mo_138_Mo_finds_MoV mo_o (Nat.le_of_ble_eq_true rfl) (by omega) (by omega) (c_Mo_finds (by omega) ?_)
      refine V.iret d_Mo_keeper_27 rfl (Nat.le_of_ble_eq_true rfl) (Nat.le_of_ble_eq_true rfl) ?_
      exact hE (by simp only [c_9, c_19, Bool.and_false, Bool.false_and, Bool.and_true, Bool.true_and])
def sfB (cv wv : Int32 → Int32 → Int32 → Int32) (N : Nat) (D : Nat → Int32) (k : Nat) : Nat → Int32 × Int32 := fun p => itr (fun p bl => if (dsD cv wv N k (upd D 2 (nI p))).1 3 ≤ bl.2 then (nI p, (dsD cv wv N k (upd D 2 (nI p))).1 3) else bl) p (nI 0, nI 1000)
abbrev M_Mo_safe : MD := (⟨"FelledByNamesModel", "safe", "(I)I"⟩, prog_14_method_67_code, 5, (some .int), fun _ => True)
theorem d_Mo_safe_0 : decode prog_14_method_67_code 0 = .ok (.iload_n 1, 1) := by decide +kernel
theorem d_Mo_safe_1 : decode prog_14_method_67_code 1 = .ok (.i2l, 1) := by decide +kernel
theorem d_Mo_safe_2 : decode prog_14_method_67_code 2 = .ok (.lconst 0, 1) := by decide +kernel
theorem d_Mo_safe_3 : decode prog_14_method_67_code 3 = .ok (.ldc2_w 217, 3) := by decide +kernel
theorem d_Mo_safe_6 : decode prog_14_method_67_code 6 = .ok (.invokestatic 56, 3) := by decide +kernel
theorem d_Mo_safe_9 : decode prog_14_method_67_code 9 = .ok (.ifCond .ne 9, 3) := by decide +kernel
theorem d_Mo_safe_18 : decode prog_14_method_67_code 18 = .ok (.aload_n 0, 1) := by decide +kernel
theorem d_Mo_safe_19 : decode prog_14_method_67_code 19 = .ok (.invokevirtual 228, 3) := by decide +kernel
theorem d_Mo_safe_22 : decode prog_14_method_67_code 22 = .ok (.iconst 0, 1) := by decide +kernel
theorem d_Mo_safe_23 : decode prog_14_method_67_code 23 = .ok (.istore_n 2, 1) := by decide +kernel
theorem d_Mo_safe_24 : decode prog_14_method_67_code 24 = .ok (.sipush 1000, 3) := by decide +kernel
theorem d_Mo_safe_27 : decode prog_14_method_67_code 27 = .ok (.istore_n 3, 1) := by decide +kernel
theorem d_Mo_safe_28 : decode prog_14_method_67_code 28 = .ok (.iconst 0, 1) := by decide +kernel
theorem d_Mo_safe_29 : decode prog_14_method_67_code 29 = .ok (.istore 4, 2) := by decide +kernel
theorem d_Mo_safe_31 : decode prog_14_method_67_code 31 = .ok (.iload 4, 2) := by decide +kernel
theorem d_Mo_safe_33 : decode prog_14_method_67_code 33 = .ok (.bipush 16, 2) := by decide +kernel
theorem d_Mo_safe_35 : decode prog_14_method_67_code 35 = .ok (.if_icmp .ge 46, 3) := by decide +kernel
theorem d_Mo_safe_81 : decode prog_14_method_67_code 81 = .ok (.iload_n 2, 1) := by decide +kernel
theorem d_Mo_safe_82 : decode prog_14_method_67_code 82 = .ok (.ireturn, 1) := by decide +kernel
theorem d_Mo_safe_38 : decode prog_14_method_67_code 38 = .ok (.aload_n 0, 1) := by decide +kernel
theorem d_Mo_safe_39 : decode prog_14_method_67_code 39 = .ok (.getfield 7, 3) := by decide +kernel
theorem d_Mo_safe_42 : decode prog_14_method_67_code 42 = .ok (.iconst 2, 1) := by decide +kernel
theorem d_Mo_safe_43 : decode prog_14_method_67_code 43 = .ok (.iload 4, 2) := by decide +kernel
theorem d_Mo_safe_45 : decode prog_14_method_67_code 45 = .ok (.iastore, 1) := by decide +kernel
theorem d_Mo_safe_46 : decode prog_14_method_67_code 46 = .ok (.aload_n 0, 1) := by decide +kernel
theorem d_Mo_safe_47 : decode prog_14_method_67_code 47 = .ok (.iload_n 1, 1) := by decide +kernel
theorem d_Mo_safe_48 : decode prog_14_method_67_code 48 = .ok (.invokevirtual 219, 3) := by decide +kernel
theorem d_Mo_safe_51 : decode prog_14_method_67_code 51 = .ok (.aload_n 0, 1) := by decide +kernel
theorem d_Mo_safe_52 : decode prog_14_method_67_code 52 = .ok (.getfield 7, 3) := by decide +kernel
theorem d_Mo_safe_55 : decode prog_14_method_67_code 55 = .ok (.iconst 3, 1) := by decide +kernel
theorem d_Mo_safe_56 : decode prog_14_method_67_code 56 = .ok (.iaload, 1) := by decide +kernel
theorem d_Mo_safe_57 : decode prog_14_method_67_code 57 = .ok (.iload_n 3, 1) := by decide +kernel
theorem d_Mo_safe_58 : decode prog_14_method_67_code 58 = .ok (.if_icmp .gt 13, 3) := by decide +kernel
theorem d_Mo_safe_71 : decode prog_14_method_67_code 71 = .ok (.aload_n 0, 1) := by decide +kernel
theorem d_Mo_safe_72 : decode prog_14_method_67_code 72 = .ok (.invokevirtual 231, 3) := by decide +kernel
theorem d_Mo_safe_75 : decode prog_14_method_67_code 75 = .ok (.iinc 4 1, 3) := by decide +kernel
theorem d_Mo_safe_78 : decode prog_14_method_67_code 78 = .ok (.goto (-47), 3) := by decide +kernel
theorem d_Mo_safe_61 : decode prog_14_method_67_code 61 = .ok (.iload 4, 2) := by decide +kernel
theorem d_Mo_safe_63 : decode prog_14_method_67_code 63 = .ok (.istore_n 2, 1) := by decide +kernel
theorem d_Mo_safe_64 : decode prog_14_method_67_code 64 = .ok (.aload_n 0, 1) := by decide +kernel
theorem d_Mo_safe_65 : decode prog_14_method_67_code 65 = .ok (.getfield 7, 3) := by decide +kernel
theorem d_Mo_safe_68 : decode prog_14_method_67_code 68 = .ok (.iconst 3, 1) := by decide +kernel
theorem d_Mo_safe_69 : decode prog_14_method_67_code 69 = .ok (.iaload, 1) := by decide +kernel
theorem d_Mo_safe_70 : decode prog_14_method_67_code 70 = .ok (.istore_n 3, 1) := by decide +kernel
theorem d_Mo_safe_12 : decode prog_14_method_67_code 12 = .ok (.aload_n 0, 1) := by decide +kernel
theorem d_Mo_safe_13 : decode prog_14_method_67_code 13 = .ok (.iconst 1, 1) := by decide +kernel
theorem d_Mo_safe_14 : decode prog_14_method_67_code 14 = .ok (.invokevirtual 138, 3) := by decide +kernel
theorem d_Mo_safe_17 : decode prog_14_method_67_code 17 = .ok (.ireturn, 1) := by decide +kernel
set_option maxRecDepth 100000 in
theorem c_Mo_safe {x : Int32} {N fm len0 len1 : Nat} {W0 W1 : Nat → Nat} {l : Launch} {d q n : Nat} {D : Nat → Int32} {A : Nat → Nat → Int32} {S : Nat → Int32} {h0 : HP} {Q : QT} (hN : N ≤ 8) (hD : DW D N W0 len0 W1 len1) (hf : fm < 2 ^ 25) (ef : S 18 = nI fm) (hE : wi x (nI 0) (nI 60) = false → Q (some (.int (-1000000000 - nI 1))) n (mo q D (uA A 3 (upd (A 3) 1 (A 3 1 + nI 1))) S h0)) (hOk : ∀ k, k ≤ 60 → x = nI k → ∀ (A1 : Nat → Nat → Int32) (f1 : Nat), (∀ j, j ≠ 2 → j ≠ 4 → j ≠ 6 → j ≠ 7 → j ≠ 8 → j ≠ 9 → A1 j = A j) → f1 ≤ fm + 40000 →  Q (some (.int (sfB (tgv 0 W0 len0) (tgv 1 W1 len1) N D k 16).1)) n (mo q D A1 (uS S 18 (nI f1)) h0)) : Ct l M_Mo_safe (d + 7) 0 0 [.ref q, .int x] n (mo q D A S h0) Q := by
  refine Ct.of (fun _ => trivial) (by decide) (Nat.le_of_ble_eq_true rfl) ?_
  refine V.iload_n d_Mo_safe_0 rfl ?_
  refine V.i2l d_Mo_safe_1 ?_
  refine V.lconst_ ((nI 0).toInt64) d_Mo_safe_2 (by decide +kernel) ?_
  refine V.ldc2 (v := 60) d_Mo_safe_3 (tm 1315 (by decide +kernel) rfl) ?_
  refine V.eqS (st' := .long ((nI 60).toInt64) :: _) rfl ?_
  refine V.callS3 d_Mo_safe_6 k_Mo_56_Mo_inS (Nat.le_of_ble_eq_true rfl) (by omega) (by omega) (c_Mo_in ?_)
  refine V.ifneB (tgt := 18) d_Mo_safe_9 (by decide) (fun c_9 => ?_) (fun c_9 => ?_)
  · skip
    obtain ⟨k, hk, rfl⟩ := wi_nat (by decide) c_9
    refine V.aload_n d_Mo_safe_18 rfl ?_
    refine V.callV0 d_Mo_safe_19 k_Mo_228_Mo_keepAside_MoV mo_o (Nat.le_of_ble_eq_true rfl) (by omega) (by omega) (c_Mo_keepAside ?_)
    refine V.iconst_ (nI 0) d_Mo_safe_22 (by decide +kernel) ?_
    refine V.istore_n d_Mo_safe_23 (by decide) ?_
    refine V.sipush_ (nI 1000) d_Mo_safe_24 (by decide +kernel) ?_
    refine V.istore_n d_Mo_safe_27 (by decide) ?_
    refine V.iconst_ (nI 0) d_Mo_safe_28 (by decide +kernel) ?_
    refine V.istore d_Mo_safe_29 (by decide) ?_
    refine V.eqH (h' := mo q D (uA A 2 (cpN 106 D (A 2))) (uS S 18 (nI fm)) h0) (by rw [show uS S 18 (nI fm) = S from uS_18 ef]) ?_
    refine V.lc (ls' := [(0, .ref q), (1, .int (nI k)), (2, .int (sfB (tgv 0 W0 len0) (tgv 1 W1 len1) N D k 0).1), (3, .int (sfB (tgv 0 W0 len0) (tgv 1 W1 len1) N D k 0).2), (4, .int (nI 0))]) rfl ?_
    refine up_to (G := fun p => ∀ (A1 : Nat → Nat → Int32) (f1 : Nat), (∀ j, j ≠ 2 → j ≠ 4 → j ≠ 6 → j ≠ 7 → j ≠ 8 → j ≠ 9 → A1 j = A j) → A1 2 = cpN 106 D (A 2) → f1 ≤ fm + 500 * p → V l M_Mo_safe (d + 7) 0 0 31 [(0, .ref q), (1, .int (nI k)), (2, .int (sfB (tgv 0 W0 len0) (tgv 1 W1 len1) N D k p).1), (3, .int (sfB (tgv 0 W0 len0) (tgv 1 W1 len1) N D k p).2), (4, .int (nI p))] [] n (mo q D A1 (uS S 18 (nI f1)) h0) 0 0 Q) (16) ?_ (fun p hp hn => ?_) 0 (by omega) (uA A 2 (cpN 106 D (A 2))) fm (fun j h1 _ _ _ _ _ => uA_n h1) uA_s (by omega)
    · skip
      intro A1 f1 hA1 hA12 hf1
      refine V.iload d_Mo_safe_31 rfl ?_
      refine V.bipush_ (nI 16) d_Mo_safe_33 (by decide +kernel) ?_
      refine V.geN (tgt := 81) d_Mo_safe_35 (by decide) (by omega) (by omega) (fun c_35 => ?_) (fun c_35 => ?_)
      · skip
        refine V.iload_n d_Mo_safe_81 rfl ?_
        refine V.iret d_Mo_safe_82 rfl (Nat.le_of_ble_eq_true rfl) (Nat.le_of_ble_eq_true rfl) ?_
        exact hOk k hk rfl A1 f1 hA1 (by omega)
      · skip
        exact absurd c_35 (by omega)
    · skip
      intro A1 f1 hA1 hA12 hf1
      have eS : sfB (tgv 0 W0 len0) (tgv 1 W1 len1) N D k (p + 1) = (if (dsD (tgv 0 W0 len0) (tgv 1 W1 len1) N k (upd D 2 (nI p))).1 3 ≤ (sfB (tgv 0 W0 len0) (tgv 1 W1 len1) N D k p).2 then (nI p, (dsD (tgv 0 W0 len0) (tgv 1 W1 len1) N k (upd D 2 (nI p))).1 3) else sfB (tgv 0 W0 len0) (tgv 1 W1 len1) N D k p) := rfl
      rw [eS] at hn
      refine V.iload d_Mo_safe_31 rfl ?_
      refine V.bipush_ (nI 16) d_Mo_safe_33 (by decide +kernel) ?_
      refine V.geN (tgt := 81) d_Mo_safe_35 (by decide) (by omega) (by omega) (fun c_35 => ?_) (fun c_35 => ?_)
      · skip
        exact absurd c_35 (by omega)
      · skip
        refine V.aload_n d_Mo_safe_38 rfl ?_
        refine V.get d_Mo_safe_39 f_Mo_7_Mo mo_o rfl ?_
        refine V.iconst_ (nI 2) d_Mo_safe_42 (by decide +kernel) ?_
        refine V.iload d_Mo_safe_43 rfl ?_
        refine V.mstd d_Mo_safe_45 (by omega) ?_
        refine V.aload_n d_Mo_safe_46 rfl ?_
        refine V.iload_n d_Mo_safe_47 rfl ?_
        refine V.callV1 d_Mo_safe_48 k_Mo_219_Mo_daysGo_MoV mo_o (Nat.le_of_ble_eq_true rfl) (by omega) (by omega) (c_Mo_daysGo (fm := f1) hN (hD.up hN (fun j hj => pk_un (by omega))) (by omega) uS_s (by omega) (fun A2 hA2 hA92 => ?_))
        have hl2 := dsD_len (cv := tgv 0 W0 len0) (wv := tgv 1 W1 len1) hN (D := upd D 2 (nI p)) k
        rw [uS_uu]
        refine V.aload_n d_Mo_safe_51 rfl ?_
        refine V.get d_Mo_safe_52 f_Mo_7_Mo mo_o rfl ?_
        refine V.iconst_ (nI 3) d_Mo_safe_55 (by decide +kernel) ?_
        refine V.mldd d_Mo_safe_56 (by omega) ?_
        refine V.iload_n d_Mo_safe_57 rfl ?_
        refine V.icmp_gt (tgt := 71) d_Mo_safe_58 (by decide) (fun c_58 => ?_) (fun c_58 => ?_)
        · skip
          refine V.aload_n d_Mo_safe_71 rfl ?_
          refine V.callV0 d_Mo_safe_72 k_Mo_231_Mo_putBack_MoV mo_o (Nat.le_of_ble_eq_true rfl) (by omega) (by omega) (c_Mo_putBack ?_)
          have hbk : cpN 106 (cpN 106 D (A 2)) (dsD (tgv 0 W0 len0) (tgv 1 W1 len1) N k (upd D 2 (nI p))).1 = D := bk (fun j hj => (dsD_x hN (by unfold kpt; omega) k).trans (pk_un (by omega)))
          rw [hA2 2 (by decide) (by decide) (by decide) (by decide) (by decide), hA12, hbk]
          refine V.incN d_Mo_safe_75 rfl (by decide) ?_
          refine V.goto (tgt := 31) d_Mo_safe_78 (by decide) ?_
          first
          | (rw [if_pos (Int32.not_lt.mp c_58)] at hn; exact V.lc rfl (hn A2 _ (fun j h1 h2 h3 h4 h5 h6 => (hA2 j h2 h3 h4 h5 h6).trans (hA1 j h1 h2 h3 h4 h5 h6)) ((hA2 2 (by decide) (by decide) (by decide) (by decide) (by decide)).trans hA12) (by omega)))
          | (rw [if_neg (Int32.not_le.mpr c_58)] at hn; exact V.lc rfl (hn A2 _ (fun j h1 h2 h3 h4 h5 h6 => (hA2 j h2 h3 h4 h5 h6).trans (hA1 j h1 h2 h3 h4 h5 h6)) ((hA2 2 (by decide) (by decide) (by decide) (by decide) (by decide)).trans hA12) (by omega)))
        · skip
          refine V.iload d_Mo_safe_61 rfl ?_
          refine V.istore_n d_Mo_safe_63 (by decide) ?_
          refine V.aload_n d_Mo_safe_64 rfl ?_
          refine V.get d_Mo_safe_65 f_Mo_7_Mo mo_o rfl ?_
          refine V.iconst_ (nI 3) d_Mo_safe_68 (by decide +kernel) ?_
          refine V.mldd d_Mo_safe_69 (by omega) ?_
          refine V.istore_n d_Mo_safe_70 (by decide) ?_
          refine V.aload_n d_Mo_safe_71 rfl ?_
          refine V.callV0 d_Mo_safe_72 k_Mo_231_Mo_putBack_MoV mo_o (Nat.le_of_ble_eq_true rfl) (by omega) (by omega) (c_Mo_putBack ?_)
          have hbk : cpN 106 (cpN 106 D (A 2)) (dsD (tgv 0 W0 len0) (tgv 1 W1 len1) N k (upd D 2 (nI p))).1 = D := bk (fun j hj => (dsD_x hN (by unfold kpt; omega) k).trans (pk_un (by omega)))
          rw [hA2 2 (by decide) (by decide) (by decide) (by decide) (by decide), hA12, hbk]
          refine V.incN d_Mo_safe_75 rfl (by decide) ?_
          refine V.goto (tgt := 31) d_Mo_safe_78 (by decide) ?_
          first
          | (rw [if_pos (Int32.not_lt.mp c_58)] at hn; exact V.lc rfl (hn A2 _ (fun j h1 h2 h3 h4 h5 h6 => (hA2 j h2 h3 h4 h5 h6).trans (hA1 j h1 h2 h3 h4 h5 h6)) ((hA2 2 (by decide) (by decide) (by decide) (by decide) (by decide)).trans hA12) (by omega)))
          | (rw [if_neg (Int32.not_le.mpr c_58)] at hn; exact V.lc rfl (hn A2 _ (fun j h1 h2 h3 h4 h5 h6 => (hA2 j h2 h3 h4 h5 h6).trans (hA1 j h1 h2 h3 h4 h5 h6)) ((hA2 2 (by decide) (by decide) (by decide) (by decide) (by decide)).trans hA12) (by omega)))
  · skip
    refine V.aload_n d_Mo_safe_12 rfl ?_
    refine V.iconst_ (nI 1) d_Mo_safe_13 (by decide +kernel) ?_
    refine V.callV1 d_Mo_safe_14 k_Mo_138_Mo_finds_MoV mo_o (Nat.le_of_ble_eq_true rfl) (by omega) (by omega) (c_Mo_finds (by omega) ?_)
    refine V.iret d_Mo_safe_17 rfl (Nat.le_of_ble_eq_true rfl) (Nat.le_of_ble_eq_true rfl) ?_
    exact hE c_9
def gcdf : Nat → Nat → Nat → Nat
  | 0, x, _ => x
  | f + 1, x, y => if y = 0 then x else gcdf f y (x % y)
abbrev M_Mo_common : MD := (⟨"FelledByNamesModel", "common", "(II)I"⟩, prog_14_method_68_code, 5, (some .int), fun _ => True)
theorem d_Mo_common_4 : decode prog_14_method_68_code 4 = .ok (.iload_n 3, 1) := by decide +kernel
theorem d_Mo_common_5 : decode prog_14_method_68_code 5 = .ok (.ifCond .eq 16, 3) := by decide +kernel
theorem d_Mo_common_21 : decode prog_14_method_68_code 21 = .ok (.iload_n 2, 1) := by decide +kernel
theorem d_Mo_common_22 : decode prog_14_method_68_code 22 = .ok (.ireturn, 1) := by decide +kernel
theorem d_Mo_common_8 : decode prog_14_method_68_code 8 = .ok (.iload_n 2, 1) := by decide +kernel
theorem d_Mo_common_9 : decode prog_14_method_68_code 9 = .ok (.iload_n 3, 1) := by decide +kernel
theorem d_Mo_common_10 : decode prog_14_method_68_code 10 = .ok (.irem, 1) := by decide +kernel
theorem d_Mo_common_11 : decode prog_14_method_68_code 11 = .ok (.istore 4, 2) := by decide +kernel
theorem d_Mo_common_13 : decode prog_14_method_68_code 13 = .ok (.iload_n 3, 1) := by decide +kernel
theorem d_Mo_common_14 : decode prog_14_method_68_code 14 = .ok (.istore_n 2, 1) := by decide +kernel
theorem d_Mo_common_15 : decode prog_14_method_68_code 15 = .ok (.iload 4, 2) := by decide +kernel
theorem d_Mo_common_17 : decode prog_14_method_68_code 17 = .ok (.istore_n 3, 1) := by decide +kernel
theorem d_Mo_common_18 : decode prog_14_method_68_code 18 = .ok (.goto (-14), 3) := by decide +kernel
set_option maxRecDepth 100000 in
theorem common_loop {l : Launch} {d n : Nat} {h : HP} {Q : QT} : ∀ (f x y : Nat), x < 2 ^ 30 → y < 2 ^ 30 → y < f → Q (some (.int (nI (gcdf f x y)))) n h → V l M_Mo_common d 0 0 4 [(2, .int (nI x)), (3, .int (nI y))] [] n h 0 0 Q := by
  intro f
  induction f with
  | zero => intro x y _ _ h; omega
  | succ f ih =>
    intro x y hx hy hyf hQ
    simp only [gcdf] at hQ
    refine V.iload_n d_Mo_common_4 rfl ?_
    refine V.if_eq (tgt := 21) d_Mo_common_5 (by decide) (fun c_5 => ?_) (fun c_5 => ?_)
    · skip
      refine V.iload_n d_Mo_common_21 rfl ?_
      refine V.iret d_Mo_common_22 rfl (Nat.le_of_ble_eq_true rfl) (Nat.le_of_ble_eq_true rfl) ?_
      first
      | (rw [if_pos ((nI_eq (by omega) (by decide)).mp (show nI y = nI 0 from c_5))] at hQ; exact hQ)
    · skip
      refine V.iload_n d_Mo_common_8 rfl ?_
      refine V.iload_n d_Mo_common_9 rfl ?_
      refine V.remN d_Mo_common_10 (by omega) (Nat.pos_of_ne_zero (fun z => c_5 (by rw [z]; rfl))) (by omega) ?_
      refine V.istore d_Mo_common_11 (by decide) ?_
      refine V.iload_n d_Mo_common_13 rfl ?_
      refine V.istore_n d_Mo_common_14 (by decide) ?_
      refine V.iload d_Mo_common_15 rfl ?_
      refine V.istore_n d_Mo_common_17 (by decide) ?_
      refine V.goto (tgt := 4) d_Mo_common_18 (by decide) ?_
      rw [if_neg (fun z => c_5 (by rw [z]; rfl))] at hQ
      have hy0 : 0 < y := Nat.pos_of_ne_zero (fun z => c_5 (by rw [z]; rfl))
      exact V.lc rfl (ih y (x % y) (by omega) (by have := Nat.mod_lt x hy0; omega) (by have := Nat.mod_lt x hy0; omega) hQ)
theorem d_Mo_common_0 : decode prog_14_method_68_code 0 = .ok (.iload_n 0, 1) := by decide +kernel
theorem d_Mo_common_1 : decode prog_14_method_68_code 1 = .ok (.istore_n 2, 1) := by decide +kernel
theorem d_Mo_common_2 : decode prog_14_method_68_code 2 = .ok (.iload_n 1, 1) := by decide +kernel
theorem d_Mo_common_3 : decode prog_14_method_68_code 3 = .ok (.istore_n 3, 1) := by decide +kernel
set_option maxRecDepth 100000 in
theorem c_Mo_common {a b : Nat} {l : Launch} {d n : Nat} {h : HP} {Q : QT} (ha : a < 100) (hb : b < 100) (hQ : Q (some (.int (nI (gcdf 101 a b)))) n h) : Ct l M_Mo_common d 0 0 [.int (nI a), .int (nI b)] n h Q := by
  refine Ct.of (fun _ => trivial) (by decide) (Nat.le_of_ble_eq_true rfl) ?_
  refine V.iload_n d_Mo_common_0 rfl ?_
  refine V.istore_n d_Mo_common_1 (by decide) ?_
  refine V.iload_n d_Mo_common_2 rfl ?_
  refine V.istore_n d_Mo_common_3 (by decide) ?_
  exact V.lc (ls' := [(2, .int (nI a)), (3, .int (nI b))]) rfl (common_loop 101 a b (by omega) (by omega) (by omega) hQ)
def odD (D : Nat → Int32) (a b v : Nat) : Nat → Int32 := upd (upd D (8 + 6 * a + b) (nI (10 * v))) (8 + 6 * b + a) (nI (10 * v))
theorem odD_x {D : Nat → Int32} {a b v j : Nat} (ha : a ≤ 5) (hb : b ≤ 5) (hj : j < 8 ∨ 44 ≤ j) : odD D a b v j = D j := by
  unfold odD
  rw [pk_un (by omega), pk_un (by omega)]
def odB (cv wv : Int32 → Int32 → Int32 → Int32) (N : Nat) (D : Nat → Int32) (k i a b : Nat) : Nat → Int32 := fun v => itr (fun v m => m + (nI 1 - ((stb (dsD cv wv N k (odD D a b v)).1 N >>> (nI i &&& 31)) &&& nI 1))) v (nI 0)
theorem and1 (x : Int32) : x &&& nI 1 = nI 0 ∨ x &&& nI 1 = nI 1 := by
  obtain ⟨j, hj, e⟩ := pk_andE x (m := nI 1) 1 (by decide +kernel)
  rcases (show j = 0 ∨ j = 1 by omega) with rfl | rfl
  · exact Or.inl e
  · exact Or.inr e
theorem odB_nat {cv wv : Int32 → Int32 → Int32 → Int32} {N : Nat} {D : Nat → Int32} {k i a b : Nat} : ∀ v, ∃ m, m ≤ v ∧ odB cv wv N D k i a b v = nI m := by
  intro v
  induction v with
  | zero => exact ⟨0, Nat.le_refl _, rfl⟩
  | succ v ih =>
    obtain ⟨m, hm, em⟩ := ih
    show ∃ m, m ≤ v + 1 ∧ odB cv wv N D k i a b v + (nI 1 - ((stb (dsD cv wv N k (odD D a b v)).1 N >>> (nI i &&& 31)) &&& nI 1)) = nI m
    rcases and1 (stb (dsD cv wv N k (odD D a b v)).1 N >>> (nI i &&& 31)) with e | e
    · exact ⟨m + 1, by omega, by rw [e, em, pk_sub (by omega), nI_add]⟩
    · exact ⟨m, by omega, by rw [e, em, pk_sub (by omega), nI_add]; rfl⟩
theorem gcd10 : ∀ m, m ≤ 10 → ¬ nI (gcdf 101 m 10) = 0 := by decide +kernel
abbrev M_Mo_odds : MD := (⟨"FelledByNamesModel", "odds", "(III)I"⟩, prog_14_method_69_code, 8, (some .int), fun _ => True)
theorem d_Mo_odds_0 : decode prog_14_method_69_code 0 = .ok (.aload_n 0, 1) := by decide +kernel
theorem d_Mo_odds_1 : decode prog_14_method_69_code 1 = .ok (.iload_n 1, 1) := by decide +kernel
theorem d_Mo_odds_2 : decode prog_14_method_69_code 2 = .ok (.invokevirtual 207, 3) := by decide +kernel
theorem d_Mo_odds_5 : decode prog_14_method_69_code 5 = .ok (.ifCond .eq 25, 3) := by decide +kernel
theorem d_Mo_odds_30 : decode prog_14_method_69_code 30 = .ok (.aload_n 0, 1) := by decide +kernel
theorem d_Mo_odds_31 : decode prog_14_method_69_code 31 = .ok (.iconst 1, 1) := by decide +kernel
theorem d_Mo_odds_32 : decode prog_14_method_69_code 32 = .ok (.invokevirtual 138, 3) := by decide +kernel
theorem d_Mo_odds_35 : decode prog_14_method_69_code 35 = .ok (.ireturn, 1) := by decide +kernel
theorem d_Mo_odds_8 : decode prog_14_method_69_code 8 = .ok (.iload_n 2, 1) := by decide +kernel
theorem d_Mo_odds_9 : decode prog_14_method_69_code 9 = .ok (.i2l, 1) := by decide +kernel
theorem d_Mo_odds_10 : decode prog_14_method_69_code 10 = .ok (.lconst 0, 1) := by decide +kernel
theorem d_Mo_odds_11 : decode prog_14_method_69_code 11 = .ok (.ldc2_w 217, 3) := by decide +kernel
theorem d_Mo_odds_14 : decode prog_14_method_69_code 14 = .ok (.invokestatic 56, 3) := by decide +kernel
theorem d_Mo_odds_17 : decode prog_14_method_69_code 17 = .ok (.ifCond .eq 13, 3) := by decide +kernel
theorem d_Mo_odds_20 : decode prog_14_method_69_code 20 = .ok (.iload_n 3, 1) := by decide +kernel
theorem d_Mo_odds_21 : decode prog_14_method_69_code 21 = .ok (.i2l, 1) := by decide +kernel
theorem d_Mo_odds_22 : decode prog_14_method_69_code 22 = .ok (.lconst 0, 1) := by decide +kernel
theorem d_Mo_odds_23 : decode prog_14_method_69_code 23 = .ok (.lconst 1, 1) := by decide +kernel
theorem d_Mo_odds_24 : decode prog_14_method_69_code 24 = .ok (.invokestatic 56, 3) := by decide +kernel
theorem d_Mo_odds_27 : decode prog_14_method_69_code 27 = .ok (.ifCond .ne 9, 3) := by decide +kernel
theorem d_Mo_odds_36 : decode prog_14_method_69_code 36 = .ok (.aload_n 0, 1) := by decide +kernel
theorem d_Mo_odds_37 : decode prog_14_method_69_code 37 = .ok (.invokevirtual 228, 3) := by decide +kernel
theorem d_Mo_odds_40 : decode prog_14_method_69_code 40 = .ok (.aload_n 0, 1) := by decide +kernel
theorem d_Mo_odds_41 : decode prog_14_method_69_code 41 = .ok (.iload_n 1, 1) := by decide +kernel
theorem d_Mo_odds_42 : decode prog_14_method_69_code 42 = .ok (.iconst 2, 1) := by decide +kernel
theorem d_Mo_odds_43 : decode prog_14_method_69_code 43 = .ok (.invokevirtual 158, 3) := by decide +kernel
theorem d_Mo_odds_46 : decode prog_14_method_69_code 46 = .ok (.istore 4, 2) := by decide +kernel
theorem d_Mo_odds_48 : decode prog_14_method_69_code 48 = .ok (.aload_n 0, 1) := by decide +kernel
theorem d_Mo_odds_49 : decode prog_14_method_69_code 49 = .ok (.iload_n 1, 1) := by decide +kernel
theorem d_Mo_odds_50 : decode prog_14_method_69_code 50 = .ok (.iconst 3, 1) := by decide +kernel
theorem d_Mo_odds_51 : decode prog_14_method_69_code 51 = .ok (.invokevirtual 158, 3) := by decide +kernel
theorem d_Mo_odds_54 : decode prog_14_method_69_code 54 = .ok (.istore 5, 2) := by decide +kernel
theorem d_Mo_odds_56 : decode prog_14_method_69_code 56 = .ok (.iconst 0, 1) := by decide +kernel
theorem d_Mo_odds_57 : decode prog_14_method_69_code 57 = .ok (.istore 6, 2) := by decide +kernel
theorem d_Mo_odds_59 : decode prog_14_method_69_code 59 = .ok (.iconst 0, 1) := by decide +kernel
theorem d_Mo_odds_60 : decode prog_14_method_69_code 60 = .ok (.istore 7, 2) := by decide +kernel
theorem d_Mo_odds_62 : decode prog_14_method_69_code 62 = .ok (.iload 7, 2) := by decide +kernel
theorem d_Mo_odds_64 : decode prog_14_method_69_code 64 = .ok (.bipush 10, 2) := by decide +kernel
theorem d_Mo_odds_66 : decode prog_14_method_69_code 66 = .ok (.if_icmp .ge 67, 3) := by decide +kernel
theorem d_Mo_odds_133 : decode prog_14_method_69_code 133 = .ok (.iload_n 3, 1) := by decide +kernel
theorem d_Mo_odds_134 : decode prog_14_method_69_code 134 = .ok (.ifCond .ne 8, 3) := by decide +kernel
theorem d_Mo_odds_142 : decode prog_14_method_69_code 142 = .ok (.bipush 10, 2) := by decide +kernel
theorem d_Mo_odds_144 : decode prog_14_method_69_code 144 = .ok (.iload 6, 2) := by decide +kernel
theorem d_Mo_odds_146 : decode prog_14_method_69_code 146 = .ok (.bipush 10, 2) := by decide +kernel
theorem d_Mo_odds_148 : decode prog_14_method_69_code 148 = .ok (.invokestatic 248, 3) := by decide +kernel
theorem kB_Mo_common : kB M_Mo_common 2 := ⟨tm 15 (by decide +kernel) rfl, tm 1421 (by decide +kernel) rfl, ⟨by decide, by decide, by decide +kernel⟩, by decide⟩
theorem k_Mo_248_Mo_commonS : kS "FelledByNamesModel" 248 M_Mo_common 2 := ⟨kB_Mo_common, tm 1419 (by decide +kernel) rfl, tm 1420 (by decide +kernel) rfl⟩
theorem d_Mo_odds_151 : decode prog_14_method_69_code 151 = .ok (.idiv, 1) := by decide +kernel
theorem d_Mo_odds_152 : decode prog_14_method_69_code 152 = .ok (.ireturn, 1) := by decide +kernel
theorem d_Mo_odds_137 : decode prog_14_method_69_code 137 = .ok (.iload 6, 2) := by decide +kernel
theorem d_Mo_odds_139 : decode prog_14_method_69_code 139 = .ok (.goto 5, 3) := by decide +kernel
theorem d_Mo_odds_69 : decode prog_14_method_69_code 69 = .ok (.aload_n 0, 1) := by decide +kernel
theorem d_Mo_odds_70 : decode prog_14_method_69_code 70 = .ok (.getfield 7, 3) := by decide +kernel
theorem d_Mo_odds_73 : decode prog_14_method_69_code 73 = .ok (.bipush 8, 2) := by decide +kernel
theorem d_Mo_odds_75 : decode prog_14_method_69_code 75 = .ok (.bipush 6, 2) := by decide +kernel
theorem d_Mo_odds_77 : decode prog_14_method_69_code 77 = .ok (.iload 4, 2) := by decide +kernel
theorem d_Mo_odds_79 : decode prog_14_method_69_code 79 = .ok (.imul, 1) := by decide +kernel
theorem d_Mo_odds_80 : decode prog_14_method_69_code 80 = .ok (.iadd, 1) := by decide +kernel
theorem d_Mo_odds_81 : decode prog_14_method_69_code 81 = .ok (.iload 5, 2) := by decide +kernel
theorem d_Mo_odds_83 : decode prog_14_method_69_code 83 = .ok (.iadd, 1) := by decide +kernel
theorem d_Mo_odds_84 : decode prog_14_method_69_code 84 = .ok (.bipush 10, 2) := by decide +kernel
theorem d_Mo_odds_86 : decode prog_14_method_69_code 86 = .ok (.iload 7, 2) := by decide +kernel
theorem d_Mo_odds_88 : decode prog_14_method_69_code 88 = .ok (.imul, 1) := by decide +kernel
theorem d_Mo_odds_89 : decode prog_14_method_69_code 89 = .ok (.iastore, 1) := by decide +kernel
theorem d_Mo_odds_90 : decode prog_14_method_69_code 90 = .ok (.aload_n 0, 1) := by decide +kernel
theorem d_Mo_odds_91 : decode prog_14_method_69_code 91 = .ok (.getfield 7, 3) := by decide +kernel
theorem d_Mo_odds_94 : decode prog_14_method_69_code 94 = .ok (.bipush 8, 2) := by decide +kernel
theorem d_Mo_odds_96 : decode prog_14_method_69_code 96 = .ok (.bipush 6, 2) := by decide +kernel
theorem d_Mo_odds_98 : decode prog_14_method_69_code 98 = .ok (.iload 5, 2) := by decide +kernel
theorem d_Mo_odds_100 : decode prog_14_method_69_code 100 = .ok (.imul, 1) := by decide +kernel
theorem d_Mo_odds_101 : decode prog_14_method_69_code 101 = .ok (.iadd, 1) := by decide +kernel
theorem d_Mo_odds_102 : decode prog_14_method_69_code 102 = .ok (.iload 4, 2) := by decide +kernel
theorem d_Mo_odds_104 : decode prog_14_method_69_code 104 = .ok (.iadd, 1) := by decide +kernel
theorem d_Mo_odds_105 : decode prog_14_method_69_code 105 = .ok (.bipush 10, 2) := by decide +kernel
theorem d_Mo_odds_107 : decode prog_14_method_69_code 107 = .ok (.iload 7, 2) := by decide +kernel
theorem d_Mo_odds_109 : decode prog_14_method_69_code 109 = .ok (.imul, 1) := by decide +kernel
theorem d_Mo_odds_110 : decode prog_14_method_69_code 110 = .ok (.iastore, 1) := by decide +kernel
theorem d_Mo_odds_111 : decode prog_14_method_69_code 111 = .ok (.iload 6, 2) := by decide +kernel
theorem d_Mo_odds_113 : decode prog_14_method_69_code 113 = .ok (.iconst 1, 1) := by decide +kernel
theorem d_Mo_odds_114 : decode prog_14_method_69_code 114 = .ok (.aload_n 0, 1) := by decide +kernel
theorem d_Mo_odds_115 : decode prog_14_method_69_code 115 = .ok (.iload_n 2, 1) := by decide +kernel
theorem d_Mo_odds_116 : decode prog_14_method_69_code 116 = .ok (.invokevirtual 237, 3) := by decide +kernel
theorem d_Mo_odds_119 : decode prog_14_method_69_code 119 = .ok (.iload_n 1, 1) := by decide +kernel
theorem d_Mo_odds_120 : decode prog_14_method_69_code 120 = .ok (.ishr, 1) := by decide +kernel
theorem d_Mo_odds_121 : decode prog_14_method_69_code 121 = .ok (.iconst 1, 1) := by decide +kernel
theorem d_Mo_odds_122 : decode prog_14_method_69_code 122 = .ok (.iand, 1) := by decide +kernel
theorem d_Mo_odds_123 : decode prog_14_method_69_code 123 = .ok (.isub, 1) := by decide +kernel
theorem d_Mo_odds_124 : decode prog_14_method_69_code 124 = .ok (.iadd, 1) := by decide +kernel
theorem d_Mo_odds_125 : decode prog_14_method_69_code 125 = .ok (.istore 6, 2) := by decide +kernel
theorem d_Mo_odds_127 : decode prog_14_method_69_code 127 = .ok (.iinc 7 1, 3) := by decide +kernel
theorem d_Mo_odds_130 : decode prog_14_method_69_code 130 = .ok (.goto (-68), 3) := by decide +kernel
set_option maxRecDepth 100000 in
theorem c_Mo_odds {x y z : Int32} {N fm len0 len1 : Nat} {W0 W1 : Nat → Nat} {l : Launch} {d q n : Nat} {D : Nat → Int32} {A : Nat → Nat → Int32} {S : Nat → Int32} {h0 : HP} {Q : QT} (hN : N ≤ 8) (hD : DW D N W0 len0 W1 len1) (hf : fm < 2 ^ 25) (ef : S 18 = nI fm) (hE : (wi x (nI 0) (nI N - nI 1) && wi y (nI 0) (nI 60) && wi z (nI 0) (nI 1)) = false → Q (some (.int (-1000000000 - nI 1))) n (mo q D (uA A 3 (upd (A 3) 1 (A 3 1 + nI 1))) S h0)) (hOk : ∀ i k w a b m, i < N → k ≤ 60 → w ≤ 1 → x = nI i → y = nI k → z = nI w → D (50 + 7 * i + 2) = nI a → D (50 + 7 * i + 3) = nI b → a ≤ 5 → b ≤ 5 →  m ≤ 10 → odB (tgv 0 W0 len0) (tgv 1 W1 len1) N D k i a b 10 = nI m → ∀ (A1 : Nat → Nat → Int32) (f1 : Nat), (∀ j, j ≠ 2 → j ≠ 4 → j ≠ 6 → j ≠ 7 → j ≠ 8 → j ≠ 9 → A1 j = A j) → f1 ≤ fm + 40000 →  Q (some (.int ((if w = 0 then nI m else nI 10) / nI (gcdf 101 m 10)))) n (mo q D A1 (uS S 18 (nI f1)) h0)) : Ct l M_Mo_odds (d + 8) 0 0 [.ref q, .int x, .int y, .int z] n (mo q D A S h0) Q := by
  refine Ct.of (fun _ => trivial) (by decide) (Nat.le_of_ble_eq_true rfl) ?_
  refine V.aload_n d_Mo_odds_0 rfl ?_
  refine V.iload_n d_Mo_odds_1 rfl ?_
  refine V.callV1 d_Mo_odds_2 k_Mo_207_Mo_isTree_MoV mo_o (Nat.le_of_ble_eq_true rfl) (by omega) (by omega) (c_Mo_isTree ?_)
  rw [hD.1]
  refine V.ifeqB (tgt := 30) d_Mo_odds_5 (by decide) (fun c_5 => ?_) (fun c_5 => ?_)
  · skip
    refine V.aload_n d_Mo_odds_30 rfl ?_
    refine V.iconst_ (nI 1) d_Mo_odds_31 (by decide +kernel) ?_
    refine V.callV1 d_Mo_odds_32 k_Mo_138_Mo_finds_MoV mo_o (Nat.le_of_ble_eq_true rfl) (by omega) (by omega) (c_Mo_finds (by omega) ?_)
    refine V.iret d_Mo_odds_35 rfl (Nat.le_of_ble_eq_true rfl) (Nat.le_of_ble_eq_true rfl) ?_
    exact hE (by simp only [c_5, Bool.and_false, Bool.false_and, Bool.and_true, Bool.true_and])
  · skip
    refine V.iload_n d_Mo_odds_8 rfl ?_
    refine V.i2l d_Mo_odds_9 ?_
    refine V.lconst_ ((nI 0).toInt64) d_Mo_odds_10 (by decide +kernel) ?_
    refine V.ldc2 (v := 60) d_Mo_odds_11 (tm 1315 (by decide +kernel) rfl) ?_
    refine V.eqS (st' := .long ((nI 60).toInt64) :: _) rfl ?_
    refine V.callS3 d_Mo_odds_14 k_Mo_56_Mo_inS (Nat.le_of_ble_eq_true rfl) (by omega) (by omega) (c_Mo_in ?_)
    refine V.ifeqB (tgt := 30) d_Mo_odds_17 (by decide) (fun c_17 => ?_) (fun c_17 => ?_)
    · skip
      refine V.aload_n d_Mo_odds_30 rfl ?_
      refine V.iconst_ (nI 1) d_Mo_odds_31 (by decide +kernel) ?_
      refine V.callV1 d_Mo_odds_32 k_Mo_138_Mo_finds_MoV mo_o (Nat.le_of_ble_eq_true rfl) (by omega) (by omega) (c_Mo_finds (by omega) ?_)
      refine V.iret d_Mo_odds_35 rfl (Nat.le_of_ble_eq_true rfl) (Nat.le_of_ble_eq_true rfl) ?_
      exact hE (by simp only [c_5, c_17, Bool.and_false, Bool.false_and, Bool.and_true, Bool.true_and])
    · skip
      refine V.iload_n d_Mo_odds_20 rfl ?_
      refine V.i2l d_Mo_odds_21 ?_
      refine V.lconst_ ((nI 0).toInt64) d_Mo_odds_22 (by decide +kernel) ?_
      refine V.lconst_ ((nI 1).toInt64) d_Mo_odds_23 (by decide +kernel) ?_
      refine V.callS3 d_Mo_odds_24 k_Mo_56_Mo_inS (Nat.le_of_ble_eq_true rfl) (by omega) (by omega) (c_Mo_in ?_)
      refine V.ifneB (tgt := 36) d_Mo_odds_27 (by decide) (fun c_27 => ?_) (fun c_27 => ?_)
      · skip
        obtain ⟨i, hi, rfl⟩ := tre_nat hN c_5
        obtain ⟨k, hk, rfl⟩ := wi_nat (by decide) c_17
        obtain ⟨w, hw, rfl⟩ := wi_nat (by decide) c_27
        obtain ⟨a, ha, ea⟩ := (hD.2.1 i hi).2.1
        obtain ⟨b, hb, eb⟩ := (hD.2.1 i hi).2.2
        refine V.aload_n d_Mo_odds_36 rfl ?_
        refine V.callV0 d_Mo_odds_37 k_Mo_228_Mo_keepAside_MoV mo_o (Nat.le_of_ble_eq_true rfl) (by omega) (by omega) (c_Mo_keepAside ?_)
        refine V.aload_n d_Mo_odds_40 rfl ?_
        refine V.iload_n d_Mo_odds_41 rfl ?_
        refine V.iconst_ (nI 2) d_Mo_odds_42 (by decide +kernel) ?_
        refine V.callV2 d_Mo_odds_43 k_Mo_158_Mo_of_MoV mo_o (Nat.le_of_ble_eq_true rfl) (by omega) (by omega) (c_Mo_of (by omega) ?_)
        refine V.top ea ?_
        refine V.istore d_Mo_odds_46 (by decide) ?_
        refine V.aload_n d_Mo_odds_48 rfl ?_
        refine V.iload_n d_Mo_odds_49 rfl ?_
        refine V.iconst_ (nI 3) d_Mo_odds_50 (by decide +kernel) ?_
        refine V.callV2 d_Mo_odds_51 k_Mo_158_Mo_of_MoV mo_o (Nat.le_of_ble_eq_true rfl) (by omega) (by omega) (c_Mo_of (by omega) ?_)
        refine V.top eb ?_
        refine V.istore d_Mo_odds_54 (by decide) ?_
        refine V.iconst_ (nI 0) d_Mo_odds_56 (by decide +kernel) ?_
        refine V.istore d_Mo_odds_57 (by decide) ?_
        refine V.iconst_ (nI 0) d_Mo_odds_59 (by decide +kernel) ?_
        refine V.istore d_Mo_odds_60 (by decide) ?_
        refine V.eqH (h' := mo q D (uA A 2 (cpN 106 D (A 2))) (uS S 18 (nI fm)) h0) (by rw [show uS S 18 (nI fm) = S from uS_18 ef]) ?_
        refine V.lc (ls' := [(0, .ref q), (1, .int (nI i)), (2, .int (nI k)), (3, .int (nI w)), (4, .int (nI a)), (5, .int (nI b)), (6, .int (odB (tgv 0 W0 len0) (tgv 1 W1 len1) N D k i a b 0)), (7, .int (nI 0))]) rfl ?_
        refine up_to (G := fun v => ∀ (A1 : Nat → Nat → Int32) (f1 : Nat), (∀ j, j ≠ 2 → j ≠ 4 → j ≠ 6 → j ≠ 7 → j ≠ 8 → j ≠ 9 → A1 j = A j) → A1 2 = cpN 106 D (A 2) → f1 ≤ fm + 500 * v → V l M_Mo_odds (d + 8) 0 0 62 [(0, .ref q), (1, .int (nI i)), (2, .int (nI k)), (3, .int (nI w)), (4, .int (nI a)), (5, .int (nI b)), (6, .int (odB (tgv 0 W0 len0) (tgv 1 W1 len1) N D k i a b v)), (7, .int (nI v))] [] n (mo q D A1 (uS S 18 (nI f1)) h0) 0 0 Q) (10) ?_ (fun v hv hn => ?_) 0 (by omega) (uA A 2 (cpN 106 D (A 2))) fm (fun j h1 _ _ _ _ _ => uA_n h1) uA_s (by omega)
        · skip
          intro A1 f1 hA1 hA12 hf1
          refine V.iload d_Mo_odds_62 rfl ?_
          refine V.bipush_ (nI 10) d_Mo_odds_64 (by decide +kernel) ?_
          refine V.geN (tgt := 133) d_Mo_odds_66 (by decide) (by omega) (by omega) (fun c_66 => ?_) (fun c_66 => ?_)
          · skip
            obtain ⟨m, hm, em⟩ := odB_nat (cv := tgv 0 W0 len0) (wv := tgv 1 W1 len1) (N := N) (D := D) (k := k) (i := i) (a := a) (b := b) 10
            rw [em]
            refine V.iload_n d_Mo_odds_133 rfl ?_
            refine V.if_ne (tgt := 142) d_Mo_odds_134 (by decide) (fun c_134 => ?_) (fun c_134 => ?_)
            · skip
              refine V.bipush_ (nI 10) d_Mo_odds_142 (by decide +kernel) ?_
              refine V.iload d_Mo_odds_144 rfl ?_
              refine V.bipush_ (nI 10) d_Mo_odds_146 (by decide +kernel) ?_
              refine V.callS2 d_Mo_odds_148 k_Mo_248_Mo_commonS (Nat.le_of_ble_eq_true rfl) (by omega) (by omega) (c_Mo_common (by omega) (by omega) ?_)
              refine V.idiv d_Mo_odds_151 (gcd10 m hm) ?_
              refine V.iret d_Mo_odds_152 rfl (Nat.le_of_ble_eq_true rfl) (Nat.le_of_ble_eq_true rfl) ?_
              have hOk' := hOk i k w a b m hi hk hw rfl rfl rfl ea eb ha hb hm em A1 f1 hA1 (by omega)
              first
              | (rw [if_pos ((nI_eq (by omega) (by decide)).mp (show nI w = nI 0 from c_134))] at hOk'; exact hOk')
              | (rw [if_neg (fun z => c_134 (by rw [z]; rfl))] at hOk'; exact hOk')
            · skip
              refine V.iload d_Mo_odds_137 rfl ?_
              refine V.goto (tgt := 144) d_Mo_odds_139 (by decide) ?_
              refine V.iload d_Mo_odds_144 rfl ?_
              refine V.bipush_ (nI 10) d_Mo_odds_146 (by decide +kernel) ?_
              refine V.callS2 d_Mo_odds_148 k_Mo_248_Mo_commonS (Nat.le_of_ble_eq_true rfl) (by omega) (by omega) (c_Mo_common (by omega) (by omega) ?_)
              refine V.idiv d_Mo_odds_151 (gcd10 m hm) ?_
              refine V.iret d_Mo_odds_152 rfl (Nat.le_of_ble_eq_true rfl) (Nat.le_of_ble_eq_true rfl) ?_
              have hOk' := hOk i k w a b m hi hk hw rfl rfl rfl ea eb ha hb hm em A1 f1 hA1 (by omega)
              first
              | (rw [if_pos ((nI_eq (by omega) (by decide)).mp (show nI w = nI 0 from c_134))] at hOk'; exact hOk')
              | (rw [if_neg (fun z => c_134 (by rw [z]; rfl))] at hOk'; exact hOk')
          · skip
            exact absurd c_66 (by omega)
        · skip
          intro A1 f1 hA1 hA12 hf1
          refine V.iload d_Mo_odds_62 rfl ?_
          refine V.bipush_ (nI 10) d_Mo_odds_64 (by decide +kernel) ?_
          refine V.geN (tgt := 133) d_Mo_odds_66 (by decide) (by omega) (by omega) (fun c_66 => ?_) (fun c_66 => ?_)
          · skip
            exact absurd c_66 (by omega)
          · skip
            refine V.aload_n d_Mo_odds_69 rfl ?_
            refine V.get d_Mo_odds_70 f_Mo_7_Mo mo_o rfl ?_
            refine V.bipush_ (nI 8) d_Mo_odds_73 (by decide +kernel) ?_
            refine V.bipush_ (nI 6) d_Mo_odds_75 (by decide +kernel) ?_
            refine V.iload d_Mo_odds_77 rfl ?_
            refine V.mulN d_Mo_odds_79 ?_
            refine V.addN d_Mo_odds_80 ?_
            refine V.iload d_Mo_odds_81 rfl ?_
            refine V.addN d_Mo_odds_83 ?_
            refine V.bipush_ (nI 10) d_Mo_odds_84 (by decide +kernel) ?_
            refine V.iload d_Mo_odds_86 rfl ?_
            refine V.mulN d_Mo_odds_88 ?_
            refine V.mstd d_Mo_odds_89 (by omega) ?_
            refine V.aload_n d_Mo_odds_90 rfl ?_
            refine V.get d_Mo_odds_91 f_Mo_7_Mo mo_o rfl ?_
            refine V.bipush_ (nI 8) d_Mo_odds_94 (by decide +kernel) ?_
            refine V.bipush_ (nI 6) d_Mo_odds_96 (by decide +kernel) ?_
            refine V.iload d_Mo_odds_98 rfl ?_
            refine V.mulN d_Mo_odds_100 ?_
            refine V.addN d_Mo_odds_101 ?_
            refine V.iload d_Mo_odds_102 rfl ?_
            refine V.addN d_Mo_odds_104 ?_
            refine V.bipush_ (nI 10) d_Mo_odds_105 (by decide +kernel) ?_
            refine V.iload d_Mo_odds_107 rfl ?_
            refine V.mulN d_Mo_odds_109 ?_
            refine V.mstd d_Mo_odds_110 (by omega) ?_
            refine V.iload d_Mo_odds_111 rfl ?_
            refine V.iconst_ (nI 1) d_Mo_odds_113 (by decide +kernel) ?_
            refine V.eqH (h' := mo q (odD D a b v) A1 (uS S 18 (nI f1)) h0) rfl ?_
            refine V.aload_n d_Mo_odds_114 rfl ?_
            refine V.iload_n d_Mo_odds_115 rfl ?_
            refine V.callV1 d_Mo_odds_116 k_Mo_237_Mo_standBehind_MoV mo_o (Nat.le_of_ble_eq_true rfl) (by omega) (by omega) (c_Mo_standBehind (fm := f1) hN (hD.up hN (fun j hj => odD_x ha hb (by omega))) (by omega) uS_s (by omega) (fun A2 hA2 => ?_))
            have hl2 := dsD_len (cv := tgv 0 W0 len0) (wv := tgv 1 W1 len1) hN (D := odD D a b v) k
            have hbk : cpN 106 (cpN 106 D (A 2)) (dsD (tgv 0 W0 len0) (tgv 1 W1 len1) N k (odD D a b v)).1 = D := bk (fun j hj => (dsD_x hN (by unfold kpt; omega) k).trans (odD_x ha hb (by omega)))
            rw [hA12, hbk, uS_uu]
            refine V.iload_n d_Mo_odds_119 rfl ?_
            refine V.ishr d_Mo_odds_120 ?_
            refine V.iconst_ (nI 1) d_Mo_odds_121 (by decide +kernel) ?_
            refine V.iand d_Mo_odds_122 ?_
            refine V.isub d_Mo_odds_123 ?_
            refine V.iadd d_Mo_odds_124 ?_
            refine V.istore d_Mo_odds_125 (by decide) ?_
            refine V.incN d_Mo_odds_127 rfl (by decide) ?_
            refine V.goto (tgt := 62) d_Mo_odds_130 (by decide) ?_
            exact V.lc rfl (hn A2 _ (fun j h1 h2 h3 h4 h5 h6 => (hA2 j h2 h3 h4 h5 h6).trans (hA1 j h1 h2 h3 h4 h5 h6)) ((hA2 2 (by decide) (by decide) (by decide) (by decide) (by decide)).trans hA12) (by omega))
      · skip
        refine V.aload_n d_Mo_odds_30 rfl ?_
        refine V.iconst_ (nI 1) d_Mo_odds_31 (by decide +kernel) ?_
        refine V.callV1 d_Mo_odds_32 k_Mo_138_Mo_finds_MoV mo_o (Nat.le_of_ble_eq_true rfl) (by omega) (by omega) (c_Mo_finds (by omega) ?_)
        refine V.iret d_Mo_odds_35 rfl (Nat.le_of_ble_eq_true rfl) (Nat.le_of_ble_eq_true rfl) ?_
        exact hE (by simp only [c_5, c_17, c_27, Bool.and_false, Bool.false_and, Bool.and_true, Bool.true_and])
