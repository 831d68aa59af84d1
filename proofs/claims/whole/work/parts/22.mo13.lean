abbrev M_Mo_isSheet : MD := (⟨"FelledByNamesModel", "isSheet", "(I)Z"⟩, prog_14_method_78_code, 1, (some .boolean), fun _ => True)
theorem d_Mo_isSheet_0 : decode prog_14_method_78_code 0 = .ok (.iload_n 0, 1) := by decide +kernel
theorem d_Mo_isSheet_1 : decode prog_14_method_78_code 1 = .ok (.i2l, 1) := by decide +kernel
theorem d_Mo_isSheet_2 : decode prog_14_method_78_code 2 = .ok (.lconst 0, 1) := by decide +kernel
theorem d_Mo_isSheet_3 : decode prog_14_method_78_code 3 = .ok (.ldc2_w 272, 3) := by decide +kernel
theorem d_Mo_isSheet_6 : decode prog_14_method_78_code 6 = .ok (.invokestatic 56, 3) := by decide +kernel
theorem d_Mo_isSheet_9 : decode prog_14_method_78_code 9 = .ok (.ireturn, 1) := by decide +kernel
set_option maxRecDepth 100000 in
theorem c_Mo_isSheet {x : Int32} {l : Launch} {d n : Nat} {h : HP} {Q : QT} (hQ : Q (some (.int (bi (wi x (nI 0) (nI 3))))) n h) : Ct l M_Mo_isSheet (d + 1) 0 0 [.int x] n h Q := by
  refine Ct.of (fun _ => trivial) (by decide) (Nat.le_of_ble_eq_true rfl) ?_
  refine V.iload_n d_Mo_isSheet_0 rfl ?_
  refine V.i2l d_Mo_isSheet_1 ?_
  refine V.lconst_ ((nI 0).toInt64) d_Mo_isSheet_2 (by decide +kernel) ?_
  refine V.ldc2 (v := 3) d_Mo_isSheet_3 (tm 1394 (by decide +kernel) rfl) ?_
  refine V.eqS (st' := .long ((nI 3).toInt64) :: _) rfl ?_
  refine V.callS3 d_Mo_isSheet_6 k_Mo_56_Mo_inS (Nat.le_of_ble_eq_true rfl) (by omega) (by omega) (c_Mo_in ?_)
  refine V.bret d_Mo_isSheet_9 rfl (Nat.le_of_ble_eq_true rfl) (Nat.le_of_ble_eq_true rfl) ?_
  exact hQ
def zsg (f : Nat → Int32) (i k : Nat) : Nat → Int32 := fun j => if 40 * i ≤ j ∧ j < 40 * i + k then nI 0 else f j
theorem zsg_0 {f : Nat → Int32} {i : Nat} : zsg f i 0 = f := by
  funext j
  unfold zsg
  rw [if_neg (by omega)]
theorem zsg_s {f : Nat → Int32} {i k : Nat} : upd (zsg f i k) (40 * i + k) (nI 0) = zsg f i (k + 1) := by
  funext j
  unfold upd zsg
  by_cases hj : j = 40 * i + k
  · rw [if_pos hj, if_pos (by omega)]
  · rw [if_neg hj]
    by_cases h1 : 40 * i ≤ j ∧ j < 40 * i + k
    · rw [if_pos h1, if_pos (by omega)]
    · rw [if_neg h1, if_neg (by omega)]
def bok (y : Int32) : Prop := y = 0 ∨ y = nI 8 ∨ y = nI 16 ∨ y = nI 32
theorem shA_0 {A : Nat → Nat → Int32} {f : Nat → Int32} {i : Nat} {z : Int32} : uA (uA A 11 f) 12 (upd (uA A 11 f 12) i z) = uA (uA (uA A 11 f) 12 (upd (A 12) i z)) 13 (zsg (A 13) i 0) := by
  rw [zsg_0, uA_n (show (12 : Nat) ≠ 11 by decide)]
  funext j
  by_cases hj : j = 13
  · subst hj
    rw [uA_s, uA_n (by decide), uA_n (by decide)]
  · rw [uA_n hj]
def shA (A : Nat → Nat → Int32) (i : Nat) (y z : Int32) : Nat → Nat → Int32 := uA (uA (uA A 11 (upd (A 11) i y)) 12 (upd (A 12) i z)) 13 (zsg (A 13) i 40)
abbrev M_Mo_sheet : MD := (⟨"FelledByNamesModel", "sheet", "(III)I"⟩, prog_14_method_79_code, 5, (some .int), fun _ => True)
theorem d_Mo_sheet_0 : decode prog_14_method_79_code 0 = .ok (.iload_n 1, 1) := by decide +kernel
theorem d_Mo_sheet_1 : decode prog_14_method_79_code 1 = .ok (.invokestatic 245, 3) := by decide +kernel
theorem kB_Mo_isSheet : kB M_Mo_isSheet 1 := ⟨tm 15 (by decide +kernel) rfl, tm 1393 (by decide +kernel) rfl, ⟨by decide, by decide, by decide +kernel⟩, by decide⟩
theorem k_Mo_245_Mo_isSheetS : kS "FelledByNamesModel" 245 M_Mo_isSheet 1 := ⟨kB_Mo_isSheet, tm 1391 (by decide +kernel) rfl, tm 1392 (by decide +kernel) rfl⟩
theorem d_Mo_sheet_4 : decode prog_14_method_79_code 4 = .ok (.ifCond .eq 25, 3) := by decide +kernel
theorem d_Mo_sheet_29 : decode prog_14_method_79_code 29 = .ok (.aload_n 0, 1) := by decide +kernel
theorem d_Mo_sheet_30 : decode prog_14_method_79_code 30 = .ok (.iconst 1, 1) := by decide +kernel
theorem d_Mo_sheet_31 : decode prog_14_method_79_code 31 = .ok (.invokevirtual 138, 3) := by decide +kernel
theorem d_Mo_sheet_34 : decode prog_14_method_79_code 34 = .ok (.ireturn, 1) := by decide +kernel
theorem d_Mo_sheet_7 : decode prog_14_method_79_code 7 = .ok (.iload_n 2, 1) := by decide +kernel
theorem d_Mo_sheet_8 : decode prog_14_method_79_code 8 = .ok (.ifCond .eq 27, 3) := by decide +kernel
theorem d_Mo_sheet_35 : decode prog_14_method_79_code 35 = .ok (.iload_n 2, 1) := by decide +kernel
theorem d_Mo_sheet_36 : decode prog_14_method_79_code 36 = .ok (.ifCond .eq 13, 3) := by decide +kernel
theorem d_Mo_sheet_49 : decode prog_14_method_79_code 49 = .ok (.iload_n 2, 1) := by decide +kernel
theorem d_Mo_sheet_50 : decode prog_14_method_79_code 50 = .ok (.ifCond .eq 15, 3) := by decide +kernel
theorem d_Mo_sheet_65 : decode prog_14_method_79_code 65 = .ok (.aload_n 0, 1) := by decide +kernel
theorem d_Mo_sheet_66 : decode prog_14_method_79_code 66 = .ok (.getfield 43, 3) := by decide +kernel
theorem f_Mo_43_Mo : fok "FelledByNamesModel" 43 5 22 := ⟨R_Mo, F_Mo, 26, "FelledByNamesModel", rfl, i_Mo, by decide, tm 1081 (by decide +kernel) rfl, Or.inl rfl, t_Mo, t_Mo_ok, n_Mo⟩
theorem d_Mo_sheet_69 : decode prog_14_method_79_code 69 = .ok (.iload_n 1, 1) := by decide +kernel
theorem d_Mo_sheet_70 : decode prog_14_method_79_code 70 = .ok (.iload_n 2, 1) := by decide +kernel
theorem d_Mo_sheet_71 : decode prog_14_method_79_code 71 = .ok (.iastore, 1) := by decide +kernel
theorem d_Mo_sheet_72 : decode prog_14_method_79_code 72 = .ok (.aload_n 0, 1) := by decide +kernel
theorem d_Mo_sheet_73 : decode prog_14_method_79_code 73 = .ok (.getfield 46, 3) := by decide +kernel
theorem f_Mo_46_Mo : fok "FelledByNamesModel" 46 5 23 := ⟨R_Mo, F_Mo, 26, "FelledByNamesModel", rfl, i_Mo, by decide, tm 1082 (by decide +kernel) rfl, Or.inl rfl, t_Mo, t_Mo_ok, n_Mo⟩
theorem d_Mo_sheet_76 : decode prog_14_method_79_code 76 = .ok (.iload_n 1, 1) := by decide +kernel
theorem d_Mo_sheet_77 : decode prog_14_method_79_code 77 = .ok (.iload_n 2, 1) := by decide +kernel
theorem d_Mo_sheet_78 : decode prog_14_method_79_code 78 = .ok (.ifCond .ne 7, 3) := by decide +kernel
theorem d_Mo_sheet_85 : decode prog_14_method_79_code 85 = .ok (.iload_n 3, 1) := by decide +kernel
theorem d_Mo_sheet_86 : decode prog_14_method_79_code 86 = .ok (.iastore, 1) := by decide +kernel
theorem d_Mo_sheet_87 : decode prog_14_method_79_code 87 = .ok (.iconst 0, 1) := by decide +kernel
theorem d_Mo_sheet_88 : decode prog_14_method_79_code 88 = .ok (.istore 4, 2) := by decide +kernel
theorem d_Mo_sheet_90 : decode prog_14_method_79_code 90 = .ok (.iload 4, 2) := by decide +kernel
theorem d_Mo_sheet_92 : decode prog_14_method_79_code 92 = .ok (.bipush 40, 2) := by decide +kernel
theorem d_Mo_sheet_94 : decode prog_14_method_79_code 94 = .ok (.if_icmp .ge 22, 3) := by decide +kernel
theorem d_Mo_sheet_116 : decode prog_14_method_79_code 116 = .ok (.iconst 1, 1) := by decide +kernel
theorem d_Mo_sheet_117 : decode prog_14_method_79_code 117 = .ok (.ireturn, 1) := by decide +kernel
theorem d_Mo_sheet_97 : decode prog_14_method_79_code 97 = .ok (.aload_n 0, 1) := by decide +kernel
theorem d_Mo_sheet_98 : decode prog_14_method_79_code 98 = .ok (.getfield 49, 3) := by decide +kernel
theorem f_Mo_49_Mo : fok "FelledByNamesModel" 49 5 24 := ⟨R_Mo, F_Mo, 26, "FelledByNamesModel", rfl, i_Mo, by decide, tm 1083 (by decide +kernel) rfl, Or.inl rfl, t_Mo, t_Mo_ok, n_Mo⟩
theorem d_Mo_sheet_101 : decode prog_14_method_79_code 101 = .ok (.bipush 40, 2) := by decide +kernel
theorem d_Mo_sheet_103 : decode prog_14_method_79_code 103 = .ok (.iload_n 1, 1) := by decide +kernel
theorem d_Mo_sheet_104 : decode prog_14_method_79_code 104 = .ok (.imul, 1) := by decide +kernel
theorem d_Mo_sheet_105 : decode prog_14_method_79_code 105 = .ok (.iload 4, 2) := by decide +kernel
theorem d_Mo_sheet_107 : decode prog_14_method_79_code 107 = .ok (.iadd, 1) := by decide +kernel
theorem d_Mo_sheet_108 : decode prog_14_method_79_code 108 = .ok (.iconst 0, 1) := by decide +kernel
theorem d_Mo_sheet_109 : decode prog_14_method_79_code 109 = .ok (.iastore, 1) := by decide +kernel
theorem d_Mo_sheet_110 : decode prog_14_method_79_code 110 = .ok (.iinc 4 1, 3) := by decide +kernel
theorem d_Mo_sheet_113 : decode prog_14_method_79_code 113 = .ok (.goto (-23), 3) := by decide +kernel
theorem d_Mo_sheet_81 : decode prog_14_method_79_code 81 = .ok (.iconst 0, 1) := by decide +kernel
theorem d_Mo_sheet_82 : decode prog_14_method_79_code 82 = .ok (.goto 4, 3) := by decide +kernel
theorem d_Mo_sheet_53 : decode prog_14_method_79_code 53 = .ok (.iload_n 3, 1) := by decide +kernel
theorem d_Mo_sheet_54 : decode prog_14_method_79_code 54 = .ok (.bipush 40, 2) := by decide +kernel
theorem d_Mo_sheet_56 : decode prog_14_method_79_code 56 = .ok (.if_icmp .le 9, 3) := by decide +kernel
theorem d_Mo_sheet_59 : decode prog_14_method_79_code 59 = .ok (.aload_n 0, 1) := by decide +kernel
theorem d_Mo_sheet_60 : decode prog_14_method_79_code 60 = .ok (.iconst 1, 1) := by decide +kernel
theorem d_Mo_sheet_61 : decode prog_14_method_79_code 61 = .ok (.invokevirtual 138, 3) := by decide +kernel
theorem d_Mo_sheet_64 : decode prog_14_method_79_code 64 = .ok (.ireturn, 1) := by decide +kernel
theorem d_Mo_sheet_39 : decode prog_14_method_79_code 39 = .ok (.iload_n 3, 1) := by decide +kernel
theorem d_Mo_sheet_40 : decode prog_14_method_79_code 40 = .ok (.ifCond .ge 9, 3) := by decide +kernel
theorem d_Mo_sheet_43 : decode prog_14_method_79_code 43 = .ok (.aload_n 0, 1) := by decide +kernel
theorem d_Mo_sheet_44 : decode prog_14_method_79_code 44 = .ok (.iconst 3, 1) := by decide +kernel
theorem d_Mo_sheet_45 : decode prog_14_method_79_code 45 = .ok (.invokevirtual 138, 3) := by decide +kernel
theorem d_Mo_sheet_48 : decode prog_14_method_79_code 48 = .ok (.ireturn, 1) := by decide +kernel
theorem d_Mo_sheet_11 : decode prog_14_method_79_code 11 = .ok (.iload_n 2, 1) := by decide +kernel
theorem d_Mo_sheet_12 : decode prog_14_method_79_code 12 = .ok (.bipush 8, 2) := by decide +kernel
theorem d_Mo_sheet_14 : decode prog_14_method_79_code 14 = .ok (.if_icmp .eq 21, 3) := by decide +kernel
theorem d_Mo_sheet_17 : decode prog_14_method_79_code 17 = .ok (.iload_n 2, 1) := by decide +kernel
theorem d_Mo_sheet_18 : decode prog_14_method_79_code 18 = .ok (.bipush 16, 2) := by decide +kernel
theorem d_Mo_sheet_20 : decode prog_14_method_79_code 20 = .ok (.if_icmp .eq 15, 3) := by decide +kernel
theorem d_Mo_sheet_23 : decode prog_14_method_79_code 23 = .ok (.iload_n 2, 1) := by decide +kernel
theorem d_Mo_sheet_24 : decode prog_14_method_79_code 24 = .ok (.bipush 32, 2) := by decide +kernel
theorem d_Mo_sheet_26 : decode prog_14_method_79_code 26 = .ok (.if_icmp .eq 9, 3) := by decide +kernel
set_option maxRecDepth 100000 in
theorem c_Mo_sheet {x y z : Int32} {l : Launch} {d q n : Nat} {D : Nat → Int32} {A : Nat → Nat → Int32} {S : Nat → Int32} {h0 : HP} {Q : QT} (hE : (wi x (nI 0) (nI 3) = false ∨ ¬ bok y) → Q (some (.int (-1000000000 - nI 1))) n (mo q D (uA A 3 (upd (A 3) 1 (A 3 1 + nI 1))) S h0)) (hS : wi x (nI 0) (nI 3) = true → bok y → ¬ y = 0 → z < 0 → Q (some (.int (-1000000000 - nI 3))) n (mo q D (uA A 3 (upd (A 3) 3 (A 3 3 + nI 1))) S h0)) (hB : wi x (nI 0) (nI 3) = true → bok y → ¬ y = 0 → 0 ≤ z → ¬ z ≤ nI 40 → Q (some (.int (-1000000000 - nI 1))) n (mo q D (uA A 3 (upd (A 3) 1 (A 3 1 + nI 1))) S h0)) (hOk : ∀ i, i ≤ 3 → x = nI i → bok y → (¬ y = 0 → 0 ≤ z ∧ z ≤ nI 40) → Q (some (.int (nI 1))) n (mo q D (shA A i y (if y = 0 then nI 0 else z)) S h0)) : Ct l M_Mo_sheet (d + 2) 0 0 [.ref q, .int x, .int y, .int z] n (mo q D A S h0) Q := by
  refine Ct.of (fun _ => trivial) (by decide) (Nat.le_of_ble_eq_true rfl) ?_
  refine V.iload_n d_Mo_sheet_0 rfl ?_
  refine V.callS1 d_Mo_sheet_1 k_Mo_245_Mo_isSheetS (Nat.le_of_ble_eq_true rfl) (by omega) (by omega) (c_Mo_isSheet ?_)
  refine V.ifeqB (tgt := 29) d_Mo_sheet_4 (by decide) (fun c_4 => ?_) (fun c_4 => ?_)
  · skip
    refine V.aload_n d_Mo_sheet_29 rfl ?_
    refine V.iconst_ (nI 1) d_Mo_sheet_30 (by decide +kernel) ?_
    refine V.callV1 d_Mo_sheet_31 k_Mo_138_Mo_finds_MoV mo_o (Nat.le_of_ble_eq_true rfl) (by omega) (by omega) (c_Mo_finds (by omega) ?_)
    refine V.iret d_Mo_sheet_34 rfl (Nat.le_of_ble_eq_true rfl) (Nat.le_of_ble_eq_true rfl) ?_
    exact hE (by first | exact Or.inl c_4 | exact Or.inr (fun z => z.elim c_8 (fun z => z.elim c_14 (fun z => z.elim c_20 c_26))))
  · skip
    refine V.iload_n d_Mo_sheet_7 rfl ?_
    refine V.if_eq (tgt := 35) d_Mo_sheet_8 (by decide) (fun c_8 => ?_) (fun c_8 => ?_)
    · skip
      refine V.iload_n d_Mo_sheet_35 rfl ?_
      refine V.if_eq (tgt := 49) d_Mo_sheet_36 (by decide) (fun c_36 => ?_) (fun c_36 => ?_)
      · skip
        refine V.iload_n d_Mo_sheet_49 rfl ?_
        refine V.if_eq (tgt := 65) d_Mo_sheet_50 (by decide) (fun c_50 => ?_) (fun c_50 => ?_)
        · skip
          obtain ⟨i, hi, rfl⟩ := wi_nat (by decide) c_4
          refine V.aload_n d_Mo_sheet_65 rfl ?_
          refine V.get d_Mo_sheet_66 f_Mo_43_Mo mo_o rfl ?_
          refine V.iload_n d_Mo_sheet_69 rfl ?_
          refine V.iload_n d_Mo_sheet_70 rfl ?_
          refine V.msta 11 (by decide) (by decide) d_Mo_sheet_71 (by first | omega | (show _ < 4; omega)) ?_
          refine V.aload_n d_Mo_sheet_72 rfl ?_
          refine V.get d_Mo_sheet_73 f_Mo_46_Mo mo_o rfl ?_
          refine V.iload_n d_Mo_sheet_76 rfl ?_
          refine V.iload_n d_Mo_sheet_77 rfl ?_
          refine V.if_ne (tgt := 85) d_Mo_sheet_78 (by decide) (fun c_78 => ?_) (fun c_78 => ?_)
          · skip
            refine V.iload_n d_Mo_sheet_85 rfl ?_
            refine V.msta 12 (by decide) (by decide) d_Mo_sheet_86 (by first | omega | (show _ < 4; omega)) ?_
            refine V.iconst_ (nI 0) d_Mo_sheet_87 (by decide +kernel) ?_
            refine V.istore d_Mo_sheet_88 (by decide) ?_
            refine V.eqH (h' := mo q D (uA (uA (uA A 11 (upd (A 11) i y)) 12 (upd (A 12) i (z))) 13 (zsg (A 13) i 0)) S h0) (by rw [shA_0]) ?_
            refine V.lc (ls' := [(0, .ref q), (1, .int (nI i)), (2, .int y), (3, .int z), (4, .int (nI 0))]) rfl ?_
            refine up_to (G := fun k => V l M_Mo_sheet (d + 2) 0 0 90 [(0, .ref q), (1, .int (nI i)), (2, .int y), (3, .int z), (4, .int (nI k))] [] n (mo q D (uA (uA (uA A 11 (upd (A 11) i y)) 12 (upd (A 12) i (z))) 13 (zsg (A 13) i k)) S h0) 0 0 Q) (40) ?_ (fun k hk hn => ?_) 0 (by omega)
            · skip
              refine V.iload d_Mo_sheet_90 rfl ?_
              refine V.bipush_ (nI 40) d_Mo_sheet_92 (by decide +kernel) ?_
              refine V.geN (tgt := 116) d_Mo_sheet_94 (by decide) (by omega) (by omega) (fun c_94 => ?_) (fun c_94 => ?_)
              · skip
                refine V.iconst_ (nI 1) d_Mo_sheet_116 (by decide +kernel) ?_
                refine V.iret d_Mo_sheet_117 rfl (Nat.le_of_ble_eq_true rfl) (Nat.le_of_ble_eq_true rfl) ?_
                first
                | exact absurd c_36 c_78
                | exact absurd c_50 c_78
                | exact absurd c_8 c_78
                | (have hOk' := hOk i hi rfl (by first | exact Or.inl c_8 | exact Or.inr (Or.inl c_14) | exact Or.inr (Or.inr (Or.inl c_20)) | exact Or.inr (Or.inr (Or.inr c_26))) (fun z => ⟨c_40, c_56⟩)
                   rw [if_neg c_78] at hOk'
                   exact hOk')
              · skip
                exact absurd c_94 (by omega)
            · skip
              rw [← zsg_s] at hn
              refine V.iload d_Mo_sheet_90 rfl ?_
              refine V.bipush_ (nI 40) d_Mo_sheet_92 (by decide +kernel) ?_
              refine V.geN (tgt := 116) d_Mo_sheet_94 (by decide) (by omega) (by omega) (fun c_94 => ?_) (fun c_94 => ?_)
              · skip
                exact absurd c_94 (by omega)
              · skip
                refine V.aload_n d_Mo_sheet_97 rfl ?_
                refine V.get d_Mo_sheet_98 f_Mo_49_Mo mo_o rfl ?_
                refine V.bipush_ (nI 40) d_Mo_sheet_101 (by decide +kernel) ?_
                refine V.iload_n d_Mo_sheet_103 rfl ?_
                refine V.mulN d_Mo_sheet_104 ?_
                refine V.iload d_Mo_sheet_105 rfl ?_
                refine V.addN d_Mo_sheet_107 ?_
                refine V.iconst_ (nI 0) d_Mo_sheet_108 (by decide +kernel) ?_
                refine V.msta 13 (by decide) (by decide) d_Mo_sheet_109 (by first | omega | (show _ < 160; omega)) ?_
                refine V.incN d_Mo_sheet_110 rfl (by decide) ?_
                refine V.goto (tgt := 90) d_Mo_sheet_113 (by decide) ?_
                simp only [uA_uu, uA_s]
                exact V.lc rfl hn
          · skip
            refine V.iconst_ (nI 0) d_Mo_sheet_81 (by decide +kernel) ?_
            refine V.goto (tgt := 86) d_Mo_sheet_82 (by decide) ?_
            refine V.msta 12 (by decide) (by decide) d_Mo_sheet_86 (by first | omega | (show _ < 4; omega)) ?_
            refine V.iconst_ (nI 0) d_Mo_sheet_87 (by decide +kernel) ?_
            refine V.istore d_Mo_sheet_88 (by decide) ?_
            refine V.eqH (h' := mo q D (uA (uA (uA A 11 (upd (A 11) i y)) 12 (upd (A 12) i (nI 0))) 13 (zsg (A 13) i 0)) S h0) (by rw [shA_0]) ?_
            refine V.lc (ls' := [(0, .ref q), (1, .int (nI i)), (2, .int y), (3, .int z), (4, .int (nI 0))]) rfl ?_
            refine up_to (G := fun k => V l M_Mo_sheet (d + 2) 0 0 90 [(0, .ref q), (1, .int (nI i)), (2, .int y), (3, .int z), (4, .int (nI k))] [] n (mo q D (uA (uA (uA A 11 (upd (A 11) i y)) 12 (upd (A 12) i (nI 0))) 13 (zsg (A 13) i k)) S h0) 0 0 Q) (40) ?_ (fun k hk hn => ?_) 0 (by omega)
            · skip
              refine V.iload d_Mo_sheet_90 rfl ?_
              refine V.bipush_ (nI 40) d_Mo_sheet_92 (by decide +kernel) ?_
              refine V.geN (tgt := 116) d_Mo_sheet_94 (by decide) (by omega) (by omega) (fun c_94 => ?_) (fun c_94 => ?_)
              · skip
                refine V.iconst_ (nI 1) d_Mo_sheet_116 (by decide +kernel) ?_
                refine V.iret d_Mo_sheet_117 rfl (Nat.le_of_ble_eq_true rfl) (Nat.le_of_ble_eq_true rfl) ?_
                have hOk' := hOk i hi rfl (by first | exact Or.inl c_8 | exact Or.inr (Or.inl c_14) | exact Or.inr (Or.inr (Or.inl c_20)) | exact Or.inr (Or.inr (Or.inr c_26))) (fun z => absurd c_78 z)
                rw [if_pos c_78] at hOk'
                exact hOk'
              · skip
                exact absurd c_94 (by omega)
            · skip
              rw [← zsg_s] at hn
              refine V.iload d_Mo_sheet_90 rfl ?_
              refine V.bipush_ (nI 40) d_Mo_sheet_92 (by decide +kernel) ?_
              refine V.geN (tgt := 116) d_Mo_sheet_94 (by decide) (by omega) (by omega) (fun c_94 => ?_) (fun c_94 => ?_)
              · skip
                exact absurd c_94 (by omega)
              · skip
                refine V.aload_n d_Mo_sheet_97 rfl ?_
                refine V.get d_Mo_sheet_98 f_Mo_49_Mo mo_o rfl ?_
                refine V.bipush_ (nI 40) d_Mo_sheet_101 (by decide +kernel) ?_
                refine V.iload_n d_Mo_sheet_103 rfl ?_
                refine V.mulN d_Mo_sheet_104 ?_
                refine V.iload d_Mo_sheet_105 rfl ?_
                refine V.addN d_Mo_sheet_107 ?_
                refine V.iconst_ (nI 0) d_Mo_sheet_108 (by decide +kernel) ?_
                refine V.msta 13 (by decide) (by decide) d_Mo_sheet_109 (by first | omega | (show _ < 160; omega)) ?_
                refine V.incN d_Mo_sheet_110 rfl (by decide) ?_
                refine V.goto (tgt := 90) d_Mo_sheet_113 (by decide) ?_
                simp only [uA_uu, uA_s]
                exact V.lc rfl hn
        · skip
          refine V.iload_n d_Mo_sheet_53 rfl ?_
          refine V.bipush_ (nI 40) d_Mo_sheet_54 (by decide +kernel) ?_
          refine V.icmp_le (tgt := 65) d_Mo_sheet_56 (by decide) (fun c_56 => ?_) (fun c_56 => ?_)
          · skip
            obtain ⟨i, hi, rfl⟩ := wi_nat (by decide) c_4
            refine V.aload_n d_Mo_sheet_65 rfl ?_
            refine V.get d_Mo_sheet_66 f_Mo_43_Mo mo_o rfl ?_
            refine V.iload_n d_Mo_sheet_69 rfl ?_
            refine V.iload_n d_Mo_sheet_70 rfl ?_
            refine V.msta 11 (by decide) (by decide) d_Mo_sheet_71 (by first | omega | (show _ < 4; omega)) ?_
            refine V.aload_n d_Mo_sheet_72 rfl ?_
            refine V.get d_Mo_sheet_73 f_Mo_46_Mo mo_o rfl ?_
            refine V.iload_n d_Mo_sheet_76 rfl ?_
            refine V.iload_n d_Mo_sheet_77 rfl ?_
            refine V.if_ne (tgt := 85) d_Mo_sheet_78 (by decide) (fun c_78 => ?_) (fun c_78 => ?_)
            · skip
              refine V.iload_n d_Mo_sheet_85 rfl ?_
              refine V.msta 12 (by decide) (by decide) d_Mo_sheet_86 (by first | omega | (show _ < 4; omega)) ?_
              refine V.iconst_ (nI 0) d_Mo_sheet_87 (by decide +kernel) ?_
              refine V.istore d_Mo_sheet_88 (by decide) ?_
              refine V.eqH (h' := mo q D (uA (uA (uA A 11 (upd (A 11) i y)) 12 (upd (A 12) i (z))) 13 (zsg (A 13) i 0)) S h0) (by rw [shA_0]) ?_
              refine V.lc (ls' := [(0, .ref q), (1, .int (nI i)), (2, .int y), (3, .int z), (4, .int (nI 0))]) rfl ?_
              refine up_to (G := fun k => V l M_Mo_sheet (d + 2) 0 0 90 [(0, .ref q), (1, .int (nI i)), (2, .int y), (3, .int z), (4, .int (nI k))] [] n (mo q D (uA (uA (uA A 11 (upd (A 11) i y)) 12 (upd (A 12) i (z))) 13 (zsg (A 13) i k)) S h0) 0 0 Q) (40) ?_ (fun k hk hn => ?_) 0 (by omega)
              · skip
                refine V.iload d_Mo_sheet_90 rfl ?_
                refine V.bipush_ (nI 40) d_Mo_sheet_92 (by decide +kernel) ?_
                refine V.geN (tgt := 116) d_Mo_sheet_94 (by decide) (by omega) (by omega) (fun c_94 => ?_) (fun c_94 => ?_)
                · skip
                  refine V.iconst_ (nI 1) d_Mo_sheet_116 (by decide +kernel) ?_
                  refine V.iret d_Mo_sheet_117 rfl (Nat.le_of_ble_eq_true rfl) (Nat.le_of_ble_eq_true rfl) ?_
                  first
                  | exact absurd c_36 c_78
                  | exact absurd c_50 c_78
                  | exact absurd c_8 c_78
                  | (have hOk' := hOk i hi rfl (by first | exact Or.inl c_8 | exact Or.inr (Or.inl c_14) | exact Or.inr (Or.inr (Or.inl c_20)) | exact Or.inr (Or.inr (Or.inr c_26))) (fun z => ⟨c_40, c_56⟩)
                     rw [if_neg c_78] at hOk'
                     exact hOk')
                · skip
                  exact absurd c_94 (by omega)
              · skip
                rw [← zsg_s] at hn
                refine V.iload d_Mo_sheet_90 rfl ?_
                refine V.bipush_ (nI 40) d_Mo_sheet_92 (by decide +kernel) ?_
                refine V.geN (tgt := 116) d_Mo_sheet_94 (by decide) (by omega) (by omega) (fun c_94 => ?_) (fun c_94 => ?_)
                · skip
                  exact absurd c_94 (by omega)
                · skip
                  refine V.aload_n d_Mo_sheet_97 rfl ?_
                  refine V.get d_Mo_sheet_98 f_Mo_49_Mo mo_o rfl ?_
                  refine V.bipush_ (nI 40) d_Mo_sheet_101 (by decide +kernel) ?_
                  refine V.iload_n d_Mo_sheet_103 rfl ?_
                  refine V.mulN d_Mo_sheet_104 ?_
                  refine V.iload d_Mo_sheet_105 rfl ?_
                  refine V.addN d_Mo_sheet_107 ?_
                  refine V.iconst_ (nI 0) d_Mo_sheet_108 (by decide +kernel) ?_
                  refine V.msta 13 (by decide) (by decide) d_Mo_sheet_109 (by first | omega | (show _ < 160; omega)) ?_
                  refine V.incN d_Mo_sheet_110 rfl (by decide) ?_
                  refine V.goto (tgt := 90) d_Mo_sheet_113 (by decide) ?_
                  simp only [uA_uu, uA_s]
                  exact V.lc rfl hn
            · skip
              refine V.iconst_ (nI 0) d_Mo_sheet_81 (by decide +kernel) ?_
              refine V.goto (tgt := 86) d_Mo_sheet_82 (by decide) ?_
              refine V.msta 12 (by decide) (by decide) d_Mo_sheet_86 (by first | omega | (show _ < 4; omega)) ?_
              refine V.iconst_ (nI 0) d_Mo_sheet_87 (by decide +kernel) ?_
              refine V.istore d_Mo_sheet_88 (by decide) ?_
              refine V.eqH (h' := mo q D (uA (uA (uA A 11 (upd (A 11) i y)) 12 (upd (A 12) i (nI 0))) 13 (zsg (A 13) i 0)) S h0) (by rw [shA_0]) ?_
              refine V.lc (ls' := [(0, .ref q), (1, .int (nI i)), (2, .int y), (3, .int z), (4, .int (nI 0))]) rfl ?_
              refine up_to (G := fun k => V l M_Mo_sheet (d + 2) 0 0 90 [(0, .ref q), (1, .int (nI i)), (2, .int y), (3, .int z), (4, .int (nI k))] [] n (mo q D (uA (uA (uA A 11 (upd (A 11) i y)) 12 (upd (A 12) i (nI 0))) 13 (zsg (A 13) i k)) S h0) 0 0 Q) (40) ?_ (fun k hk hn => ?_) 0 (by omega)
              · skip
                refine V.iload d_Mo_sheet_90 rfl ?_
                refine V.bipush_ (nI 40) d_Mo_sheet_92 (by decide +kernel) ?_
                refine V.geN (tgt := 116) d_Mo_sheet_94 (by decide) (by omega) (by omega) (fun c_94 => ?_) (fun c_94 => ?_)
                · skip
                  refine V.iconst_ (nI 1) d_Mo_sheet_116 (by decide +kernel) ?_
                  refine V.iret d_Mo_sheet_117 rfl (Nat.le_of_ble_eq_true rfl) (Nat.le_of_ble_eq_true rfl) ?_
                  have hOk' := hOk i hi rfl (by first | exact Or.inl c_8 | exact Or.inr (Or.inl c_14) | exact Or.inr (Or.inr (Or.inl c_20)) | exact Or.inr (Or.inr (Or.inr c_26))) (fun z => absurd c_78 z)
                  rw [if_pos c_78] at hOk'
                  exact hOk'
                · skip
                  exact absurd c_94 (by omega)
              · skip
                rw [← zsg_s] at hn
                refine V.iload d_Mo_sheet_90 rfl ?_
                refine V.bipush_ (nI 40) d_Mo_sheet_92 (by decide +kernel) ?_
                refine V.geN (tgt := 116) d_Mo_sheet_94 (by decide) (by omega) (by omega) (fun c_94 => ?_) (fun c_94 => ?_)
                · skip
                  exact absurd c_94 (by omega)
                · skip
                  refine V.aload_n d_Mo_sheet_97 rfl ?_
                  refine V.get d_Mo_sheet_98 f_Mo_49_Mo mo_o rfl ?_
                  refine V.bipush_ (nI 40) d_Mo_sheet_101 (by decide +kernel) ?_
                  refine V.iload_n d_Mo_sheet_103 rfl ?_
                  refine V.mulN d_Mo_sheet_104 ?_
                  refine V.iload d_Mo_sheet_105 rfl ?_
                  refine V.addN d_Mo_sheet_107 ?_
                  refine V.iconst_ (nI 0) d_Mo_sheet_108 (by decide +kernel) ?_
                  refine V.msta 13 (by decide) (by decide) d_Mo_sheet_109 (by first | omega | (show _ < 160; omega)) ?_
                  refine V.incN d_Mo_sheet_110 rfl (by decide) ?_
                  refine V.goto (tgt := 90) d_Mo_sheet_113 (by decide) ?_
                  simp only [uA_uu, uA_s]
                  exact V.lc rfl hn
          · skip
            refine V.aload_n d_Mo_sheet_59 rfl ?_
            refine V.iconst_ (nI 1) d_Mo_sheet_60 (by decide +kernel) ?_
            refine V.callV1 d_Mo_sheet_61 k_Mo_138_Mo_finds_MoV mo_o (Nat.le_of_ble_eq_true rfl) (by omega) (by omega) (c_Mo_finds (by omega) ?_)
            refine V.iret d_Mo_sheet_64 rfl (Nat.le_of_ble_eq_true rfl) (Nat.le_of_ble_eq_true rfl) ?_
            exact hB c_4 (by first | exact Or.inl c_8 | exact Or.inr (Or.inl c_14) | exact Or.inr (Or.inr (Or.inl c_20)) | exact Or.inr (Or.inr (Or.inr c_26))) c_50 (by first | exact c_40 | exact absurd c_36 c_50) c_56
      · skip
        refine V.iload_n d_Mo_sheet_39 rfl ?_
        refine V.if_ge (tgt := 49) d_Mo_sheet_40 (by decide) (fun c_40 => ?_) (fun c_40 => ?_)
        · skip
          refine V.iload_n d_Mo_sheet_49 rfl ?_
          refine V.if_eq (tgt := 65) d_Mo_sheet_50 (by decide) (fun c_50 => ?_) (fun c_50 => ?_)
          · skip
            obtain ⟨i, hi, rfl⟩ := wi_nat (by decide) c_4
            refine V.aload_n d_Mo_sheet_65 rfl ?_
            refine V.get d_Mo_sheet_66 f_Mo_43_Mo mo_o rfl ?_
            refine V.iload_n d_Mo_sheet_69 rfl ?_
            refine V.iload_n d_Mo_sheet_70 rfl ?_
            refine V.msta 11 (by decide) (by decide) d_Mo_sheet_71 (by first | omega | (show _ < 4; omega)) ?_
            refine V.aload_n d_Mo_sheet_72 rfl ?_
            refine V.get d_Mo_sheet_73 f_Mo_46_Mo mo_o rfl ?_
            refine V.iload_n d_Mo_sheet_76 rfl ?_
            refine V.iload_n d_Mo_sheet_77 rfl ?_
            refine V.if_ne (tgt := 85) d_Mo_sheet_78 (by decide) (fun c_78 => ?_) (fun c_78 => ?_)
            · skip
              refine V.iload_n d_Mo_sheet_85 rfl ?_
              refine V.msta 12 (by decide) (by decide) d_Mo_sheet_86 (by first | omega | (show _ < 4; omega)) ?_
              refine V.iconst_ (nI 0) d_Mo_sheet_87 (by decide +kernel) ?_
              refine V.istore d_Mo_sheet_88 (by decide) ?_
              refine V.eqH (h' := mo q D (uA (uA (uA A 11 (upd (A 11) i y)) 12 (upd (A 12) i (z))) 13 (zsg (A 13) i 0)) S h0) (by rw [shA_0]) ?_
              refine V.lc (ls' := [(0, .ref q), (1, .int (nI i)), (2, .int y), (3, .int z), (4, .int (nI 0))]) rfl ?_
              refine up_to (G := fun k => V l M_Mo_sheet (d + 2) 0 0 90 [(0, .ref q), (1, .int (nI i)), (2, .int y), (3, .int z), (4, .int (nI k))] [] n (mo q D (uA (uA (uA A 11 (upd (A 11) i y)) 12 (upd (A 12) i (z))) 13 (zsg (A 13) i k)) S h0) 0 0 Q) (40) ?_ (fun k hk hn => ?_) 0 (by omega)
              · skip
                refine V.iload d_Mo_sheet_90 rfl ?_
                refine V.bipush_ (nI 40) d_Mo_sheet_92 (by decide +kernel) ?_
                refine V.geN (tgt := 116) d_Mo_sheet_94 (by decide) (by omega) (by omega) (fun c_94 => ?_) (fun c_94 => ?_)
                · skip
                  refine V.iconst_ (nI 1) d_Mo_sheet_116 (by decide +kernel) ?_
                  refine V.iret d_Mo_sheet_117 rfl (Nat.le_of_ble_eq_true rfl) (Nat.le_of_ble_eq_true rfl) ?_
                  first
                  | exact absurd c_36 c_78
                  | exact absurd c_50 c_78
                  | exact absurd c_8 c_78
                  | (have hOk' := hOk i hi rfl (by first | exact Or.inl c_8 | exact Or.inr (Or.inl c_14) | exact Or.inr (Or.inr (Or.inl c_20)) | exact Or.inr (Or.inr (Or.inr c_26))) (fun z => ⟨c_40, c_56⟩)
                     rw [if_neg c_78] at hOk'
                     exact hOk')
                · skip
                  exact absurd c_94 (by omega)
              · skip
                rw [← zsg_s] at hn
                refine V.iload d_Mo_sheet_90 rfl ?_
                refine V.bipush_ (nI 40) d_Mo_sheet_92 (by decide +kernel) ?_
                refine V.geN (tgt := 116) d_Mo_sheet_94 (by decide) (by omega) (by omega) (fun c_94 => ?_) (fun c_94 => ?_)
                · skip
                  exact absurd c_94 (by omega)
                · skip
                  refine V.aload_n d_Mo_sheet_97 rfl ?_
                  refine V.get d_Mo_sheet_98 f_Mo_49_Mo mo_o rfl ?_
                  refine V.bipush_ (nI 40) d_Mo_sheet_101 (by decide +kernel) ?_
                  refine V.iload_n d_Mo_sheet_103 rfl ?_
                  refine V.mulN d_Mo_sheet_104 ?_
                  refine V.iload d_Mo_sheet_105 rfl ?_
                  refine V.addN d_Mo_sheet_107 ?_
                  refine V.iconst_ (nI 0) d_Mo_sheet_108 (by decide +kernel) ?_
                  refine V.msta 13 (by decide) (by decide) d_Mo_sheet_109 (by first | omega | (show _ < 160; omega)) ?_
                  refine V.incN d_Mo_sheet_110 rfl (by decide) ?_
                  refine V.goto (tgt := 90) d_Mo_sheet_113 (by decide) ?_
                  simp only [uA_uu, uA_s]
                  exact V.lc rfl hn
            · skip
              refine V.iconst_ (nI 0) d_Mo_sheet_81 (by decide +kernel) ?_
              refine V.goto (tgt := 86) d_Mo_sheet_82 (by decide) ?_
              refine V.msta 12 (by decide) (by decide) d_Mo_sheet_86 (by first | omega | (show _ < 4; omega)) ?_
              refine V.iconst_ (nI 0) d_Mo_sheet_87 (by decide +kernel) ?_
              refine V.istore d_Mo_sheet_88 (by decide) ?_
              refine V.eqH (h' := mo q D (uA (uA (uA A 11 (upd (A 11) i y)) 12 (upd (A 12) i (nI 0))) 13 (zsg (A 13) i 0)) S h0) (by rw [shA_0]) ?_
              refine V.lc (ls' := [(0, .ref q), (1, .int (nI i)), (2, .int y), (3, .int z), (4, .int (nI 0))]) rfl ?_
              refine up_to (G := fun k => V l M_Mo_sheet (d + 2) 0 0 90 [(0, .ref q), (1, .int (nI i)), (2, .int y), (3, .int z), (4, .int (nI k))] [] n (mo q D (uA (uA (uA A 11 (upd (A 11) i y)) 12 (upd (A 12) i (nI 0))) 13 (zsg (A 13) i k)) S h0) 0 0 Q) (40) ?_ (fun k hk hn => ?_) 0 (by omega)
              · skip
                refine V.iload d_Mo_sheet_90 rfl ?_
                refine V.bipush_ (nI 40) d_Mo_sheet_92 (by decide +kernel) ?_
                refine V.geN (tgt := 116) d_Mo_sheet_94 (by decide) (by omega) (by omega) (fun c_94 => ?_) (fun c_94 => ?_)
                · skip
                  refine V.iconst_ (nI 1) d_Mo_sheet_116 (by decide +kernel) ?_
                  refine V.iret d_Mo_sheet_117 rfl (Nat.le_of_ble_eq_true rfl) (Nat.le_of_ble_eq_true rfl) ?_
                  have hOk' := hOk i hi rfl (by first | exact Or.inl c_8 | exact Or.inr (Or.inl c_14) | exact Or.inr (Or.inr (Or.inl c_20)) | exact Or.inr (Or.inr (Or.inr c_26))) (fun z => absurd c_78 z)
                  rw [if_pos c_78] at hOk'
                  exact hOk'
                · skip
                  exact absurd c_94 (by omega)
              · skip
                rw [← zsg_s] at hn
                refine V.iload d_Mo_sheet_90 rfl ?_
                refine V.bipush_ (nI 40) d_Mo_sheet_92 (by decide +kernel) ?_
                refine V.geN (tgt := 116) d_Mo_sheet_94 (by decide) (by omega) (by omega) (fun c_94 => ?_) (fun c_94 => ?_)
                · skip
                  exact absurd c_94 (by omega)
                · skip
                  refine V.aload_n d_Mo_sheet_97 rfl ?_
                  refine V.get d_Mo_sheet_98 f_Mo_49_Mo mo_o rfl ?_
                  refine V.bipush_ (nI 40) d_Mo_sheet_101 (by decide +kernel) ?_
                  refine V.iload_n d_Mo_sheet_103 rfl ?_
                  refine V.mulN d_Mo_sheet_104 ?_
                  refine V.iload d_Mo_sheet_105 rfl ?_
                  refine V.addN d_Mo_sheet_107 ?_
                  refine V.iconst_ (nI 0) d_Mo_sheet_108 (by decide +kernel) ?_
                  refine V.msta 13 (by decide) (by decide) d_Mo_sheet_109 (by first | omega | (show _ < 160; omega)) ?_
                  refine V.incN d_Mo_sheet_110 rfl (by decide) ?_
                  refine V.goto (tgt := 90) d_Mo_sheet_113 (by decide) ?_
                  simp only [uA_uu, uA_s]
                  exact V.lc rfl hn
          · skip
            refine V.iload_n d_Mo_sheet_53 rfl ?_
            refine V.bipush_ (nI 40) d_Mo_sheet_54 (by decide +kernel) ?_
            refine V.icmp_le (tgt := 65) d_Mo_sheet_56 (by decide) (fun c_56 => ?_) (fun c_56 => ?_)
            · skip
              obtain ⟨i, hi, rfl⟩ := wi_nat (by decide) c_4
              refine V.aload_n d_Mo_sheet_65 rfl ?_
              refine V.get d_Mo_sheet_66 f_Mo_43_Mo mo_o rfl ?_
              refine V.iload_n d_Mo_sheet_69 rfl ?_
              refine V.iload_n d_Mo_sheet_70 rfl ?_
              refine V.msta 11 (by decide) (by decide) d_Mo_sheet_71 (by first | omega | (show _ < 4; omega)) ?_
              refine V.aload_n d_Mo_sheet_72 rfl ?_
              refine V.get d_Mo_sheet_73 f_Mo_46_Mo mo_o rfl ?_
              refine V.iload_n d_Mo_sheet_76 rfl ?_
              refine V.iload_n d_Mo_sheet_77 rfl ?_
              refine V.if_ne (tgt := 85) d_Mo_sheet_78 (by decide) (fun c_78 => ?_) (fun c_78 => ?_)
              · skip
                refine V.iload_n d_Mo_sheet_85 rfl ?_
                refine V.msta 12 (by decide) (by decide) d_Mo_sheet_86 (by first | omega | (show _ < 4; omega)) ?_
                refine V.iconst_ (nI 0) d_Mo_sheet_87 (by decide +kernel) ?_
                refine V.istore d_Mo_sheet_88 (by decide) ?_
                refine V.eqH (h' := mo q D (uA (uA (uA A 11 (upd (A 11) i y)) 12 (upd (A 12) i (z))) 13 (zsg (A 13) i 0)) S h0) (by rw [shA_0]) ?_
                refine V.lc (ls' := [(0, .ref q), (1, .int (nI i)), (2, .int y), (3, .int z), (4, .int (nI 0))]) rfl ?_
                refine up_to (G := fun k => V l M_Mo_sheet (d + 2) 0 0 90 [(0, .ref q), (1, .int (nI i)), (2, .int y), (3, .int z), (4, .int (nI k))] [] n (mo q D (uA (uA (uA A 11 (upd (A 11) i y)) 12 (upd (A 12) i (z))) 13 (zsg (A 13) i k)) S h0) 0 0 Q) (40) ?_ (fun k hk hn => ?_) 0 (by omega)
                · skip
                  refine V.iload d_Mo_sheet_90 rfl ?_
                  refine V.bipush_ (nI 40) d_Mo_sheet_92 (by decide +kernel) ?_
                  refine V.geN (tgt := 116) d_Mo_sheet_94 (by decide) (by omega) (by omega) (fun c_94 => ?_) (fun c_94 => ?_)
                  · skip
                    refine V.iconst_ (nI 1) d_Mo_sheet_116 (by decide +kernel) ?_
                    refine V.iret d_Mo_sheet_117 rfl (Nat.le_of_ble_eq_true rfl) (Nat.le_of_ble_eq_true rfl) ?_
                    first
                    | exact absurd c_36 c_78
                    | exact absurd c_50 c_78
                    | exact absurd c_8 c_78
                    | (have hOk' := hOk i hi rfl (by first | exact Or.inl c_8 | exact Or.inr (Or.inl c_14) | exact Or.inr (Or.inr (Or.inl c_20)) | exact Or.inr (Or.inr (Or.inr c_26))) (fun z => ⟨c_40, c_56⟩)
                       rw [if_neg c_78] at hOk'
                       exact hOk')
                  · skip
                    exact absurd c_94 (by omega)
                · skip
                  rw [← zsg_s] at hn
                  refine V.iload d_Mo_sheet_90 rfl ?_
                  refine V.bipush_ (nI 40) d_Mo_sheet_92 (by decide +kernel) ?_
                  refine V.geN (tgt := 116) d_Mo_sheet_94 (by decide) (by omega) (by omega) (fun c_94 => ?_) (fun c_94 => ?_)
                  · skip
                    exact absurd c_94 (by omega)
                  · skip
                    refine V.aload_n d_Mo_sheet_97 rfl ?_
                    refine V.get d_Mo_sheet_98 f_Mo_49_Mo mo_o rfl ?_
                    refine V.bipush_ (nI 40) d_Mo_sheet_101 (by decide +kernel) ?_
                    refine V.iload_n d_Mo_sheet_103 rfl ?_
                    refine V.mulN d_Mo_sheet_104 ?_
                    refine V.iload d_Mo_sheet_105 rfl ?_
                    refine V.addN d_Mo_sheet_107 ?_
                    refine V.iconst_ (nI 0) d_Mo_sheet_108 (by decide +kernel) ?_
                    refine V.msta 13 (by decide) (by decide) d_Mo_sheet_109 (by first | omega | (show _ < 160; omega)) ?_
                    refine V.incN d_Mo_sheet_110 rfl (by decide) ?_
                    refine V.goto (tgt := 90) d_Mo_sheet_113 (by decide) ?_
                    simp only [uA_uu, uA_s]
                    exact V.lc rfl hn
              · skip
                refine V.iconst_ (nI 0) d_Mo_sheet_81 (by decide +kernel) ?_
                refine V.goto (tgt := 86) d_Mo_sheet_82 (by decide) ?_
                refine V.msta 12 (by decide) (by decide) d_Mo_sheet_86 (by first | omega | (show _ < 4; omega)) ?_
                refine V.iconst_ (nI 0) d_Mo_sheet_87 (by decide +kernel) ?_
                refine V.istore d_Mo_sheet_88 (by decide) ?_
                refine V.eqH (h' := mo q D (uA (uA (uA A 11 (upd (A 11) i y)) 12 (upd (A 12) i (nI 0))) 13 (zsg (A 13) i 0)) S h0) (by rw [shA_0]) ?_
                refine V.lc (ls' := [(0, .ref q), (1, .int (nI i)), (2, .int y), (3, .int z), (4, .int (nI 0))]) rfl ?_
                refine up_to (G := fun k => V l M_Mo_sheet (d + 2) 0 0 90 [(0, .ref q), (1, .int (nI i)), (2, .int y), (3, .int z), (4, .int (nI k))] [] n (mo q D (uA (uA (uA A 11 (upd (A 11) i y)) 12 (upd (A 12) i (nI 0))) 13 (zsg (A 13) i k)) S h0) 0 0 Q) (40) ?_ (fun k hk hn => ?_) 0 (by omega)
                · skip
                  refine V.iload d_Mo_sheet_90 rfl ?_
                  refine V.bipush_ (nI 40) d_Mo_sheet_92 (by decide +kernel) ?_
                  refine V.geN (tgt := 116) d_Mo_sheet_94 (by decide) (by omega) (by omega) (fun c_94 => ?_) (fun c_94 => ?_)
                  · skip
                    refine V.iconst_ (nI 1) d_Mo_sheet_116 (by decide +kernel) ?_
                    refine V.iret d_Mo_sheet_117 rfl (Nat.le_of_ble_eq_true rfl) (Nat.le_of_ble_eq_true rfl) ?_
                    have hOk' := hOk i hi rfl (by first | exact Or.inl c_8 | exact Or.inr (Or.inl c_14) | exact Or.inr (Or.inr (Or.inl c_20)) | exact Or.inr (Or.inr (Or.inr c_26))) (fun z => absurd c_78 z)
                    rw [if_pos c_78] at hOk'
                    exact hOk'
                  · skip
                    exact absurd c_94 (by omega)
                · skip
                  rw [← zsg_s] at hn
                  refine V.iload d_Mo_sheet_90 rfl ?_
                  refine V.bipush_ (nI 40) d_Mo_sheet_92 (by decide +kernel) ?_
                  refine V.geN (tgt := 116) d_Mo_sheet_94 (by decide) (by omega) (by omega) (fun c_94 => ?_) (fun c_94 => ?_)
                  · skip
                    exact absurd c_94 (by omega)
                  · skip
                    refine V.aload_n d_Mo_sheet_97 rfl ?_
                    refine V.get d_Mo_sheet_98 f_Mo_49_Mo mo_o rfl ?_
                    refine V.bipush_ (nI 40) d_Mo_sheet_101 (by decide +kernel) ?_
                    refine V.iload_n d_Mo_sheet_103 rfl ?_
                    refine V.mulN d_Mo_sheet_104 ?_
                    refine V.iload d_Mo_sheet_105 rfl ?_
                    refine V.addN d_Mo_sheet_107 ?_
                    refine V.iconst_ (nI 0) d_Mo_sheet_108 (by decide +kernel) ?_
                    refine V.msta 13 (by decide) (by decide) d_Mo_sheet_109 (by first | omega | (show _ < 160; omega)) ?_
                    refine V.incN d_Mo_sheet_110 rfl (by decide) ?_
                    refine V.goto (tgt := 90) d_Mo_sheet_113 (by decide) ?_
                    simp only [uA_uu, uA_s]
                    exact V.lc rfl hn
            · skip
              refine V.aload_n d_Mo_sheet_59 rfl ?_
              refine V.iconst_ (nI 1) d_Mo_sheet_60 (by decide +kernel) ?_
              refine V.callV1 d_Mo_sheet_61 k_Mo_138_Mo_finds_MoV mo_o (Nat.le_of_ble_eq_true rfl) (by omega) (by omega) (c_Mo_finds (by omega) ?_)
              refine V.iret d_Mo_sheet_64 rfl (Nat.le_of_ble_eq_true rfl) (Nat.le_of_ble_eq_true rfl) ?_
              exact hB c_4 (by first | exact Or.inl c_8 | exact Or.inr (Or.inl c_14) | exact Or.inr (Or.inr (Or.inl c_20)) | exact Or.inr (Or.inr (Or.inr c_26))) c_50 (by first | exact c_40 | exact absurd c_36 c_50) c_56
        · skip
          refine V.aload_n d_Mo_sheet_43 rfl ?_
          refine V.iconst_ (nI 3) d_Mo_sheet_44 (by decide +kernel) ?_
          refine V.callV1 d_Mo_sheet_45 k_Mo_138_Mo_finds_MoV mo_o (Nat.le_of_ble_eq_true rfl) (by omega) (by omega) (c_Mo_finds (by omega) ?_)
          refine V.iret d_Mo_sheet_48 rfl (Nat.le_of_ble_eq_true rfl) (Nat.le_of_ble_eq_true rfl) ?_
          exact hS c_4 (by first | exact Or.inl c_8 | exact Or.inr (Or.inl c_14) | exact Or.inr (Or.inr (Or.inl c_20)) | exact Or.inr (Or.inr (Or.inr c_26))) c_36 (Int32.not_le.mp c_40)
    · skip
      refine V.iload_n d_Mo_sheet_11 rfl ?_
      refine V.bipush_ (nI 8) d_Mo_sheet_12 (by decide +kernel) ?_
      refine V.icmp_eq (tgt := 35) d_Mo_sheet_14 (by decide) (fun c_14 => ?_) (fun c_14 => ?_)
      · skip
        refine V.iload_n d_Mo_sheet_35 rfl ?_
        refine V.if_eq (tgt := 49) d_Mo_sheet_36 (by decide) (fun c_36 => ?_) (fun c_36 => ?_)
        · skip
          refine V.iload_n d_Mo_sheet_49 rfl ?_
          refine V.if_eq (tgt := 65) d_Mo_sheet_50 (by decide) (fun c_50 => ?_) (fun c_50 => ?_)
          · skip
            obtain ⟨i, hi, rfl⟩ := wi_nat (by decide) c_4
            refine V.aload_n d_Mo_sheet_65 rfl ?_
            refine V.get d_Mo_sheet_66 f_Mo_43_Mo mo_o rfl ?_
            refine V.iload_n d_Mo_sheet_69 rfl ?_
            refine V.iload_n d_Mo_sheet_70 rfl ?_
            refine V.msta 11 (by decide) (by decide) d_Mo_sheet_71 (by first | omega | (show _ < 4; omega)) ?_
            refine V.aload_n d_Mo_sheet_72 rfl ?_
            refine V.get d_Mo_sheet_73 f_Mo_46_Mo mo_o rfl ?_
            refine V.iload_n d_Mo_sheet_76 rfl ?_
            refine V.iload_n d_Mo_sheet_77 rfl ?_
            refine V.if_ne (tgt := 85) d_Mo_sheet_78 (by decide) (fun c_78 => ?_) (fun c_78 => ?_)
            · skip
              refine V.iload_n d_Mo_sheet_85 rfl ?_
              refine V.msta 12 (by decide) (by decide) d_Mo_sheet_86 (by first | omega | (show _ < 4; omega)) ?_
              refine V.iconst_ (nI 0) d_Mo_sheet_87 (by decide +kernel) ?_
              refine V.istore d_Mo_sheet_88 (by decide) ?_
              refine V.eqH (h' := mo q D (uA (uA (uA A 11 (upd (A 11) i y)) 12 (upd (A 12) i (z))) 13 (zsg (A 13) i 0)) S h0) (by rw [shA_0]) ?_
              refine V.lc (ls' := [(0, .ref q), (1, .int (nI i)), (2, .int y), (3, .int z), (4, .int (nI 0))]) rfl ?_
              refine up_to (G := fun k => V l M_Mo_sheet (d + 2) 0 0 90 [(0, .ref q), (1, .int (nI i)), (2, .int y), (3, .int z), (4, .int (nI k))] [] n (mo q D (uA (uA (uA A 11 (upd (A 11) i y)) 12 (upd (A 12) i (z))) 13 (zsg (A 13) i k)) S h0) 0 0 Q) (40) ?_ (fun k hk hn => ?_) 0 (by omega)
              · skip
                refine V.iload d_Mo_sheet_90 rfl ?_
                refine V.bipush_ (nI 40) d_Mo_sheet_92 (by decide +kernel) ?_
                refine V.geN (tgt := 116) d_Mo_sheet_94 (by decide) (by omega) (by omega) (fun c_94 => ?_) (fun c_94 => ?_)
                · skip
                  refine V.iconst_ (nI 1) d_Mo_sheet_116 (by decide +kernel) ?_
                  refine V.iret d_Mo_sheet_117 rfl (Nat.le_of_ble_eq_true rfl) (Nat.le_of_ble_eq_true rfl) ?_
                  first
                  | exact absurd c_36 c_78
                  | exact absurd c_50 c_78
                  | exact absurd c_8 c_78
                  | (have hOk' := hOk i hi rfl (by first | exact Or.inl c_8 | exact Or.inr (Or.inl c_14) | exact Or.inr (Or.inr (Or.inl c_20)) | exact Or.inr (Or.inr (Or.inr c_26))) (fun z => ⟨c_40, c_56⟩)
                     rw [if_neg c_78] at hOk'
                     exact hOk')
                · skip
                  exact absurd c_94 (by omega)
              · skip
                rw [← zsg_s] at hn
                refine V.iload d_Mo_sheet_90 rfl ?_
                refine V.bipush_ (nI 40) d_Mo_sheet_92 (by decide +kernel) ?_
                refine V.geN (tgt := 116) d_Mo_sheet_94 (by decide) (by omega) (by omega) (fun c_94 => ?_) (fun c_94 => ?_)
                · skip
                  exact absurd c_94 (by omega)
                · skip
                  refine V.aload_n d_Mo_sheet_97 rfl ?_
                  refine V.get d_Mo_sheet_98 f_Mo_49_Mo mo_o rfl ?_
                  refine V.bipush_ (nI 40) d_Mo_sheet_101 (by decide +kernel) ?_
                  refine V.iload_n d_Mo_sheet_103 rfl ?_
                  refine V.mulN d_Mo_sheet_104 ?_
                  refine V.iload d_Mo_sheet_105 rfl ?_
                  refine V.addN d_Mo_sheet_107 ?_
                  refine V.iconst_ (nI 0) d_Mo_sheet_108 (by decide +kernel) ?_
                  refine V.msta 13 (by decide) (by decide) d_Mo_sheet_109 (by first | omega | (show _ < 160; omega)) ?_
                  refine V.incN d_Mo_sheet_110 rfl (by decide) ?_
                  refine V.goto (tgt := 90) d_Mo_sheet_113 (by decide) ?_
                  simp only [uA_uu, uA_s]
                  exact V.lc rfl hn
            · skip
              refine V.iconst_ (nI 0) d_Mo_sheet_81 (by decide +kernel) ?_
              refine V.goto (tgt := 86) d_Mo_sheet_82 (by decide) ?_
              refine V.msta 12 (by decide) (by decide) d_Mo_sheet_86 (by first | omega | (show _ < 4; omega)) ?_
              refine V.iconst_ (nI 0) d_Mo_sheet_87 (by decide +kernel) ?_
              refine V.istore d_Mo_sheet_88 (by decide) ?_
              refine V.eqH (h' := mo q D (uA (uA (uA A 11 (upd (A 11) i y)) 12 (upd (A 12) i (nI 0))) 13 (zsg (A 13) i 0)) S h0) (by rw [shA_0]) ?_
              refine V.lc (ls' := [(0, .ref q), (1, .int (nI i)), (2, .int y), (3, .int z), (4, .int (nI 0))]) rfl ?_
              refine up_to (G := fun k => V l M_Mo_sheet (d + 2) 0 0 90 [(0, .ref q), (1, .int (nI i)), (2, .int y), (3, .int z), (4, .int (nI k))] [] n (mo q D (uA (uA (uA A 11 (upd (A 11) i y)) 12 (upd (A 12) i (nI 0))) 13 (zsg (A 13) i k)) S h0) 0 0 Q) (40) ?_ (fun k hk hn => ?_) 0 (by omega)
              · skip
                refine V.iload d_Mo_sheet_90 rfl ?_
                refine V.bipush_ (nI 40) d_Mo_sheet_92 (by decide +kernel) ?_
                refine V.geN (tgt := 116) d_Mo_sheet_94 (by decide) (by omega) (by omega) (fun c_94 => ?_) (fun c_94 => ?_)
                · skip
                  refine V.iconst_ (nI 1) d_Mo_sheet_116 (by decide +kernel) ?_
                  refine V.iret d_Mo_sheet_117 rfl (Nat.le_of_ble_eq_true rfl) (Nat.le_of_ble_eq_true rfl) ?_
                  have hOk' := hOk i hi rfl (by first | exact Or.inl c_8 | exact Or.inr (Or.inl c_14) | exact Or.inr (Or.inr (Or.inl c_20)) | exact Or.inr (Or.inr (Or.inr c_26))) (fun z => absurd c_78 z)
                  rw [if_pos c_78] at hOk'
                  exact hOk'
                · skip
                  exact absurd c_94 (by omega)
              · skip
                rw [← zsg_s] at hn
                refine V.iload d_Mo_sheet_90 rfl ?_
                refine V.bipush_ (nI 40) d_Mo_sheet_92 (by decide +kernel) ?_
                refine V.geN (tgt := 116) d_Mo_sheet_94 (by decide) (by omega) (by omega) (fun c_94 => ?_) (fun c_94 => ?_)
                · skip
                  exact absurd c_94 (by omega)
                · skip
                  refine V.aload_n d_Mo_sheet_97 rfl ?_
                  refine V.get d_Mo_sheet_98 f_Mo_49_Mo mo_o rfl ?_
                  refine V.bipush_ (nI 40) d_Mo_sheet_101 (by decide +kernel) ?_
                  refine V.iload_n d_Mo_sheet_103 rfl ?_
                  refine V.mulN d_Mo_sheet_104 ?_
                  refine V.iload d_Mo_sheet_105 rfl ?_
                  refine V.addN d_Mo_sheet_107 ?_
                  refine V.iconst_ (nI 0) d_Mo_sheet_108 (by decide +kernel) ?_
                  refine V.msta 13 (by decide) (by decide) d_Mo_sheet_109 (by first | omega | (show _ < 160; omega)) ?_
                  refine V.incN d_Mo_sheet_110 rfl (by decide) ?_
                  refine V.goto (tgt := 90) d_Mo_sheet_113 (by decide) ?_
                  simp only [uA_uu, uA_s]
                  exact V.lc rfl hn
          · skip
            refine V.iload_n d_Mo_sheet_53 rfl ?_
            refine V.bipush_ (nI 40) d_Mo_sheet_54 (by decide +kernel) ?_
            refine V.icmp_le (tgt := 65) d_Mo_sheet_56 (by decide) (fun c_56 => ?_) (fun c_56 => ?_)
            · skip
              obtain ⟨i, hi, rfl⟩ := wi_nat (by decide) c_4
              refine V.aload_n d_Mo_sheet_65 rfl ?_
              refine V.get d_Mo_sheet_66 f_Mo_43_Mo mo_o rfl ?_
              refine V.iload_n d_Mo_sheet_69 rfl ?_
              refine V.iload_n d_Mo_sheet_70 rfl ?_
              refine V.msta 11 (by decide) (by decide) d_Mo_sheet_71 (by first | omega | (show _ < 4; omega)) ?_
              refine V.aload_n d_Mo_sheet_72 rfl ?_
              refine V.get d_Mo_sheet_73 f_Mo_46_Mo mo_o rfl ?_
              refine V.iload_n d_Mo_sheet_76 rfl ?_
              refine V.iload_n d_Mo_sheet_77 rfl ?_
              refine V.if_ne (tgt := 85) d_Mo_sheet_78 (by decide) (fun c_78 => ?_) (fun c_78 => ?_)
              · skip
                refine V.iload_n d_Mo_sheet_85 rfl ?_
                refine V.msta 12 (by decide) (by decide) d_Mo_sheet_86 (by first | omega | (show _ < 4; omega)) ?_
                refine V.iconst_ (nI 0) d_Mo_sheet_87 (by decide +kernel) ?_
                refine V.istore d_Mo_sheet_88 (by decide) ?_
                refine V.eqH (h' := mo q D (uA (uA (uA A 11 (upd (A 11) i y)) 12 (upd (A 12) i (z))) 13 (zsg (A 13) i 0)) S h0) (by rw [shA_0]) ?_
                refine V.lc (ls' := [(0, .ref q), (1, .int (nI i)), (2, .int y), (3, .int z), (4, .int (nI 0))]) rfl ?_
                refine up_to (G := fun k => V l M_Mo_sheet (d + 2) 0 0 90 [(0, .ref q), (1, .int (nI i)), (2, .int y), (3, .int z), (4, .int (nI k))] [] n (mo q D (uA (uA (uA A 11 (upd (A 11) i y)) 12 (upd (A 12) i (z))) 13 (zsg (A 13) i k)) S h0) 0 0 Q) (40) ?_ (fun k hk hn => ?_) 0 (by omega)
                · skip
                  refine V.iload d_Mo_sheet_90 rfl ?_
                  refine V.bipush_ (nI 40) d_Mo_sheet_92 (by decide +kernel) ?_
                  refine V.geN (tgt := 116) d_Mo_sheet_94 (by decide) (by omega) (by omega) (fun c_94 => ?_) (fun c_94 => ?_)
                  · skip
                    refine V.iconst_ (nI 1) d_Mo_sheet_116 (by decide +kernel) ?_
                    refine V.iret d_Mo_sheet_117 rfl (Nat.le_of_ble_eq_true rfl) (Nat.le_of_ble_eq_true rfl) ?_
                    first
                    | exact absurd c_36 c_78
                    | exact absurd c_50 c_78
                    | exact absurd c_8 c_78
                    | (have hOk' := hOk i hi rfl (by first | exact Or.inl c_8 | exact Or.inr (Or.inl c_14) | exact Or.inr (Or.inr (Or.inl c_20)) | exact Or.inr (Or.inr (Or.inr c_26))) (fun z => ⟨c_40, c_56⟩)
                       rw [if_neg c_78] at hOk'
                       exact hOk')
                  · skip
                    exact absurd c_94 (by omega)
                · skip
                  rw [← zsg_s] at hn
                  refine V.iload d_Mo_sheet_90 rfl ?_
                  refine V.bipush_ (nI 40) d_Mo_sheet_92 (by decide +kernel) ?_
                  refine V.geN (tgt := 116) d_Mo_sheet_94 (by decide) (by omega) (by omega) (fun c_94 => ?_) (fun c_94 => ?_)
                  · skip
                    exact absurd c_94 (by omega)
                  · skip
                    refine V.aload_n d_Mo_sheet_97 rfl ?_
                    refine V.get d_Mo_sheet_98 f_Mo_49_Mo mo_o rfl ?_
                    refine V.bipush_ (nI 40) d_Mo_sheet_101 (by decide +kernel) ?_
                    refine V.iload_n d_Mo_sheet_103 rfl ?_
                    refine V.mulN d_Mo_sheet_104 ?_
                    refine V.iload d_Mo_sheet_105 rfl ?_
                    refine V.addN d_Mo_sheet_107 ?_
                    refine V.iconst_ (nI 0) d_Mo_sheet_108 (by decide +kernel) ?_
                    refine V.msta 13 (by decide) (by decide) d_Mo_sheet_109 (by first | omega | (show _ < 160; omega)) ?_
                    refine V.incN d_Mo_sheet_110 rfl (by decide) ?_
                    refine V.goto (tgt := 90) d_Mo_sheet_113 (by decide) ?_
                    simp only [uA_uu, uA_s]
                    exact V.lc rfl hn
              · skip
                refine V.iconst_ (nI 0) d_Mo_sheet_81 (by decide +kernel) ?_
                refine V.goto (tgt := 86) d_Mo_sheet_82 (by decide) ?_
                refine V.msta 12 (by decide) (by decide) d_Mo_sheet_86 (by first | omega | (show _ < 4; omega)) ?_
                refine V.iconst_ (nI 0) d_Mo_sheet_87 (by decide +kernel) ?_
                refine V.istore d_Mo_sheet_88 (by decide) ?_
                refine V.eqH (h' := mo q D (uA (uA (uA A 11 (upd (A 11) i y)) 12 (upd (A 12) i (nI 0))) 13 (zsg (A 13) i 0)) S h0) (by rw [shA_0]) ?_
                refine V.lc (ls' := [(0, .ref q), (1, .int (nI i)), (2, .int y), (3, .int z), (4, .int (nI 0))]) rfl ?_
                refine up_to (G := fun k => V l M_Mo_sheet (d + 2) 0 0 90 [(0, .ref q), (1, .int (nI i)), (2, .int y), (3, .int z), (4, .int (nI k))] [] n (mo q D (uA (uA (uA A 11 (upd (A 11) i y)) 12 (upd (A 12) i (nI 0))) 13 (zsg (A 13) i k)) S h0) 0 0 Q) (40) ?_ (fun k hk hn => ?_) 0 (by omega)
                · skip
                  refine V.iload d_Mo_sheet_90 rfl ?_
                  refine V.bipush_ (nI 40) d_Mo_sheet_92 (by decide +kernel) ?_
                  refine V.geN (tgt := 116) d_Mo_sheet_94 (by decide) (by omega) (by omega) (fun c_94 => ?_) (fun c_94 => ?_)
                  · skip
                    refine V.iconst_ (nI 1) d_Mo_sheet_116 (by decide +kernel) ?_
                    refine V.iret d_Mo_sheet_117 rfl (Nat.le_of_ble_eq_true rfl) (Nat.le_of_ble_eq_true rfl) ?_
                    have hOk' := hOk i hi rfl (by first | exact Or.inl c_8 | exact Or.inr (Or.inl c_14) | exact Or.inr (Or.inr (Or.inl c_20)) | exact Or.inr (Or.inr (Or.inr c_26))) (fun z => absurd c_78 z)
                    rw [if_pos c_78] at hOk'
                    exact hOk'
                  · skip
                    exact absurd c_94 (by omega)
                · skip
                  rw [← zsg_s] at hn
                  refine V.iload d_Mo_sheet_90 rfl ?_
                  refine V.bipush_ (nI 40) d_Mo_sheet_92 (by decide +kernel) ?_
                  refine V.geN (tgt := 116) d_Mo_sheet_94 (by decide) (by omega) (by omega) (fun c_94 => ?_) (fun c_94 => ?_)
                  · skip
                    exact absurd c_94 (by omega)
                  · skip
                    refine V.aload_n d_Mo_sheet_97 rfl ?_
                    refine V.get d_Mo_sheet_98 f_Mo_49_Mo mo_o rfl ?_
                    refine V.bipush_ (nI 40) d_Mo_sheet_101 (by decide +kernel) ?_
                    refine V.iload_n d_Mo_sheet_103 rfl ?_
                    refine V.mulN d_Mo_sheet_104 ?_
                    refine V.iload d_Mo_sheet_105 rfl ?_
                    refine V.addN d_Mo_sheet_107 ?_
                    refine V.iconst_ (nI 0) d_Mo_sheet_108 (by decide +kernel) ?_
                    refine V.msta 13 (by decide) (by decide) d_Mo_sheet_109 (by first | omega | (show _ < 160; omega)) ?_
                    refine V.incN d_Mo_sheet_110 rfl (by decide) ?_
                    refine V.goto (tgt := 90) d_Mo_sheet_113 (by decide) ?_
                    simp only [uA_uu, uA_s]
                    exact V.lc rfl hn
            · skip
              refine V.aload_n d_Mo_sheet_59 rfl ?_
              refine V.iconst_ (nI 1) d_Mo_sheet_60 (by decide +kernel) ?_
              refine V.callV1 d_Mo_sheet_61 k_Mo_138_Mo_finds_MoV mo_o (Nat.le_of_ble_eq_true rfl) (by omega) (by omega) (c_Mo_finds (by omega) ?_)
              refine V.iret d_Mo_sheet_64 rfl (Nat.le_of_ble_eq_true rfl) (Nat.le_of_ble_eq_true rfl) ?_
              exact hB c_4 (by first | exact Or.inl c_8 | exact Or.inr (Or.inl c_14) | exact Or.inr (Or.inr (Or.inl c_20)) | exact Or.inr (Or.inr (Or.inr c_26))) c_50 (by first | exact c_40 | exact absurd c_36 c_50) c_56
        · skip
          refine V.iload_n d_Mo_sheet_39 rfl ?_
          refine V.if_ge (tgt := 49) d_Mo_sheet_40 (by decide) (fun c_40 => ?_) (fun c_40 => ?_)
          · skip
            refine V.iload_n d_Mo_sheet_49 rfl ?_
            refine V.if_eq (tgt := 65) d_Mo_sheet_50 (by decide) (fun c_50 => ?_) (fun c_50 => ?_)
            · skip
              obtain ⟨i, hi, rfl⟩ := wi_nat (by decide) c_4
              refine V.aload_n d_Mo_sheet_65 rfl ?_
              refine V.get d_Mo_sheet_66 f_Mo_43_Mo mo_o rfl ?_
              refine V.iload_n d_Mo_sheet_69 rfl ?_
              refine V.iload_n d_Mo_sheet_70 rfl ?_
              refine V.msta 11 (by decide) (by decide) d_Mo_sheet_71 (by first | omega | (show _ < 4; omega)) ?_
              refine V.aload_n d_Mo_sheet_72 rfl ?_
              refine V.get d_Mo_sheet_73 f_Mo_46_Mo mo_o rfl ?_
              refine V.iload_n d_Mo_sheet_76 rfl ?_
              refine V.iload_n d_Mo_sheet_77 rfl ?_
              refine V.if_ne (tgt := 85) d_Mo_sheet_78 (by decide) (fun c_78 => ?_) (fun c_78 => ?_)
              · skip
                refine V.iload_n d_Mo_sheet_85 rfl ?_
                refine V.msta 12 (by decide) (by decide) d_Mo_sheet_86 (by first | omega | (show _ < 4; omega)) ?_
                refine V.iconst_ (nI 0) d_Mo_sheet_87 (by decide +kernel) ?_
                refine V.istore d_Mo_sheet_88 (by decide) ?_
                refine V.eqH (h' := mo q D (uA (uA (uA A 11 (upd (A 11) i y)) 12 (upd (A 12) i (z))) 13 (zsg (A 13) i 0)) S h0) (by rw [shA_0]) ?_
                refine V.lc (ls' := [(0, .ref q), (1, .int (nI i)), (2, .int y), (3, .int z), (4, .int (nI 0))]) rfl ?_
                refine up_to (G := fun k => V l M_Mo_sheet (d + 2) 0 0 90 [(0, .ref q), (1, .int (nI i)), (2, .int y), (3, .int z), (4, .int (nI k))] [] n (mo q D (uA (uA (uA A 11 (upd (A 11) i y)) 12 (upd (A 12) i (z))) 13 (zsg (A 13) i k)) S h0) 0 0 Q) (40) ?_ (fun k hk hn => ?_) 0 (by omega)
                · skip
                  refine V.iload d_Mo_sheet_90 rfl ?_
                  refine V.bipush_ (nI 40) d_Mo_sheet_92 (by decide +kernel) ?_
                  refine V.geN (tgt := 116) d_Mo_sheet_94 (by decide) (by omega) (by omega) (fun c_94 => ?_) (fun c_94 => ?_)
                  · skip
                    refine V.iconst_ (nI 1) d_Mo_sheet_116 (by decide +kernel) ?_
                    refine V.iret d_Mo_sheet_117 rfl (Nat.le_of_ble_eq_true rfl) (Nat.le_of_ble_eq_true rfl) ?_
                    first
                    | exact absurd c_36 c_78
                    | exact absurd c_50 c_78
                    | exact absurd c_8 c_78
                    | (have hOk' := hOk i hi rfl (by first | exact Or.inl c_8 | exact Or.inr (Or.inl c_14) | exact Or.inr (Or.inr (Or.inl c_20)) | exact Or.inr (Or.inr (Or.inr c_26))) (fun z => ⟨c_40, c_56⟩)
                       rw [if_neg c_78] at hOk'
                       exact hOk')
                  · skip
                    exact absurd c_94 (by omega)
                · skip
                  rw [← zsg_s] at hn
                  refine V.iload d_Mo_sheet_90 rfl ?_
                  refine V.bipush_ (nI 40) d_Mo_sheet_92 (by decide +kernel) ?_
                  refine V.geN (tgt := 116) d_Mo_sheet_94 (by decide) (by omega) (by omega) (fun c_94 => ?_) (fun c_94 => ?_)
                  · skip
                    exact absurd c_94 (by omega)
                  · skip
                    refine V.aload_n d_Mo_sheet_97 rfl ?_
                    refine V.get d_Mo_sheet_98 f_Mo_49_Mo mo_o rfl ?_
                    refine V.bipush_ (nI 40) d_Mo_sheet_101 (by decide +kernel) ?_
                    refine V.iload_n d_Mo_sheet_103 rfl ?_
                    refine V.mulN d_Mo_sheet_104 ?_
                    refine V.iload d_Mo_sheet_105 rfl ?_
                    refine V.addN d_Mo_sheet_107 ?_
                    refine V.iconst_ (nI 0) d_Mo_sheet_108 (by decide +kernel) ?_
                    refine V.msta 13 (by decide) (by decide) d_Mo_sheet_109 (by first | omega | (show _ < 160; omega)) ?_
                    refine V.incN d_Mo_sheet_110 rfl (by decide) ?_
                    refine V.goto (tgt := 90) d_Mo_sheet_113 (by decide) ?_
                    simp only [uA_uu, uA_s]
                    exact V.lc rfl hn
              · skip
                refine V.iconst_ (nI 0) d_Mo_sheet_81 (by decide +kernel) ?_
                refine V.goto (tgt := 86) d_Mo_sheet_82 (by decide) ?_
                refine V.msta 12 (by decide) (by decide) d_Mo_sheet_86 (by first | omega | (show _ < 4; omega)) ?_
                refine V.iconst_ (nI 0) d_Mo_sheet_87 (by decide +kernel) ?_
                refine V.istore d_Mo_sheet_88 (by decide) ?_
                refine V.eqH (h' := mo q D (uA (uA (uA A 11 (upd (A 11) i y)) 12 (upd (A 12) i (nI 0))) 13 (zsg (A 13) i 0)) S h0) (by rw [shA_0]) ?_
                refine V.lc (ls' := [(0, .ref q), (1, .int (nI i)), (2, .int y), (3, .int z), (4, .int (nI 0))]) rfl ?_
                refine up_to (G := fun k => V l M_Mo_sheet (d + 2) 0 0 90 [(0, .ref q), (1, .int (nI i)), (2, .int y), (3, .int z), (4, .int (nI k))] [] n (mo q D (uA (uA (uA A 11 (upd (A 11) i y)) 12 (upd (A 12) i (nI 0))) 13 (zsg (A 13) i k)) S h0) 0 0 Q) (40) ?_ (fun k hk hn => ?_) 0 (by omega)
                · skip
                  refine V.iload d_Mo_sheet_90 rfl ?_
                  refine V.bipush_ (nI 40) d_Mo_sheet_92 (by decide +kernel) ?_
                  refine V.geN (tgt := 116) d_Mo_sheet_94 (by decide) (by omega) (by omega) (fun c_94 => ?_) (fun c_94 => ?_)
                  · skip
                    refine V.iconst_ (nI 1) d_Mo_sheet_116 (by decide +kernel) ?_
                    refine V.iret d_Mo_sheet_117 rfl (Nat.le_of_ble_eq_true rfl) (Nat.le_of_ble_eq_true rfl) ?_
                    have hOk' := hOk i hi rfl (by first | exact Or.inl c_8 | exact Or.inr (Or.inl c_14) | exact Or.inr (Or.inr (Or.inl c_20)) | exact Or.inr (Or.inr (Or.inr c_26))) (fun z => absurd c_78 z)
                    rw [if_pos c_78] at hOk'
                    exact hOk'
                  · skip
                    exact absurd c_94 (by omega)
                · skip
                  rw [← zsg_s] at hn
                  refine V.iload d_Mo_sheet_90 rfl ?_
                  refine V.bipush_ (nI 40) d_Mo_sheet_92 (by decide +kernel) ?_
                  refine V.geN (tgt := 116) d_Mo_sheet_94 (by decide) (by omega) (by omega) (fun c_94 => ?_) (fun c_94 => ?_)
                  · skip
                    exact absurd c_94 (by omega)
                  · skip
                    refine V.aload_n d_Mo_sheet_97 rfl ?_
                    refine V.get d_Mo_sheet_98 f_Mo_49_Mo mo_o rfl ?_
                    refine V.bipush_ (nI 40) d_Mo_sheet_101 (by decide +kernel) ?_
                    refine V.iload_n d_Mo_sheet_103 rfl ?_
                    refine V.mulN d_Mo_sheet_104 ?_
                    refine V.iload d_Mo_sheet_105 rfl ?_
                    refine V.addN d_Mo_sheet_107 ?_
                    refine V.iconst_ (nI 0) d_Mo_sheet_108 (by decide +kernel) ?_
                    refine V.msta 13 (by decide) (by decide) d_Mo_sheet_109 (by first | omega | (show _ < 160; omega)) ?_
                    refine V.incN d_Mo_sheet_110 rfl (by decide) ?_
                    refine V.goto (tgt := 90) d_Mo_sheet_113 (by decide) ?_
                    simp only [uA_uu, uA_s]
                    exact V.lc rfl hn
            · skip
              refine V.iload_n d_Mo_sheet_53 rfl ?_
              refine V.bipush_ (nI 40) d_Mo_sheet_54 (by decide +kernel) ?_
              refine V.icmp_le (tgt := 65) d_Mo_sheet_56 (by decide) (fun c_56 => ?_) (fun c_56 => ?_)
              · skip
                obtain ⟨i, hi, rfl⟩ := wi_nat (by decide) c_4
                refine V.aload_n d_Mo_sheet_65 rfl ?_
                refine V.get d_Mo_sheet_66 f_Mo_43_Mo mo_o rfl ?_
                refine V.iload_n d_Mo_sheet_69 rfl ?_
                refine V.iload_n d_Mo_sheet_70 rfl ?_
                refine V.msta 11 (by decide) (by decide) d_Mo_sheet_71 (by first | omega | (show _ < 4; omega)) ?_
                refine V.aload_n d_Mo_sheet_72 rfl ?_
                refine V.get d_Mo_sheet_73 f_Mo_46_Mo mo_o rfl ?_
                refine V.iload_n d_Mo_sheet_76 rfl ?_
                refine V.iload_n d_Mo_sheet_77 rfl ?_
                refine V.if_ne (tgt := 85) d_Mo_sheet_78 (by decide) (fun c_78 => ?_) (fun c_78 => ?_)
                · skip
                  refine V.iload_n d_Mo_sheet_85 rfl ?_
                  refine V.msta 12 (by decide) (by decide) d_Mo_sheet_86 (by first | omega | (show _ < 4; omega)) ?_
                  refine V.iconst_ (nI 0) d_Mo_sheet_87 (by decide +kernel) ?_
                  refine V.istore d_Mo_sheet_88 (by decide) ?_
                  refine V.eqH (h' := mo q D (uA (uA (uA A 11 (upd (A 11) i y)) 12 (upd (A 12) i (z))) 13 (zsg (A 13) i 0)) S h0) (by rw [shA_0]) ?_
                  refine V.lc (ls' := [(0, .ref q), (1, .int (nI i)), (2, .int y), (3, .int z), (4, .int (nI 0))]) rfl ?_
                  refine up_to (G := fun k => V l M_Mo_sheet (d + 2) 0 0 90 [(0, .ref q), (1, .int (nI i)), (2, .int y), (3, .int z), (4, .int (nI k))] [] n (mo q D (uA (uA (uA A 11 (upd (A 11) i y)) 12 (upd (A 12) i (z))) 13 (zsg (A 13) i k)) S h0) 0 0 Q) (40) ?_ (fun k hk hn => ?_) 0 (by omega)
                  · skip
                    refine V.iload d_Mo_sheet_90 rfl ?_
                    refine V.bipush_ (nI 40) d_Mo_sheet_92 (by decide +kernel) ?_
                    refine V.geN (tgt := 116) d_Mo_sheet_94 (by decide) (by omega) (by omega) (fun c_94 => ?_) (fun c_94 => ?_)
                    · skip
                      refine V.iconst_ (nI 1) d_Mo_sheet_116 (by decide +kernel) ?_
                      refine V.iret d_Mo_sheet_117 rfl (Nat.le_of_ble_eq_true rfl) (Nat.le_of_ble_eq_true rfl) ?_
                      first
                      | exact absurd c_36 c_78
                      | exact absurd c_50 c_78
                      | exact absurd c_8 c_78
                      | (have hOk' := hOk i hi rfl (by first | exact Or.inl c_8 | exact Or.inr (Or.inl c_14) | exact Or.inr (Or.inr (Or.inl c_20)) | exact Or.inr (Or.inr (Or.inr c_26))) (fun z => ⟨c_40, c_56⟩)
                         rw [if_neg c_78] at hOk'
                         exact hOk')
                    · skip
                      exact absurd c_94 (by omega)
                  · skip
                    rw [← zsg_s] at hn
                    refine V.iload d_Mo_sheet_90 rfl ?_
                    refine V.bipush_ (nI 40) d_Mo_sheet_92 (by decide +kernel) ?_
                    refine V.geN (tgt := 116) d_Mo_sheet_94 (by decide) (by omega) (by omega) (fun c_94 => ?_) (fun c_94 => ?_)
                    · skip
                      exact absurd c_94 (by omega)
                    · skip
                      refine V.aload_n d_Mo_sheet_97 rfl ?_
                      refine V.get d_Mo_sheet_98 f_Mo_49_Mo mo_o rfl ?_
                      refine V.bipush_ (nI 40) d_Mo_sheet_101 (by decide +kernel) ?_
                      refine V.iload_n d_Mo_sheet_103 rfl ?_
                      refine V.mulN d_Mo_sheet_104 ?_
                      refine V.iload d_Mo_sheet_105 rfl ?_
                      refine V.addN d_Mo_sheet_107 ?_
                      refine V.iconst_ (nI 0) d_Mo_sheet_108 (by decide +kernel) ?_
                      refine V.msta 13 (by decide) (by decide) d_Mo_sheet_109 (by first | omega | (show _ < 160; omega)) ?_
                      refine V.incN d_Mo_sheet_110 rfl (by decide) ?_
                      refine V.goto (tgt := 90) d_Mo_sheet_113 (by decide) ?_
                      simp only [uA_uu, uA_s]
                      exact V.lc rfl hn
                · skip
                  refine V.iconst_ (nI 0) d_Mo_sheet_81 (by decide +kernel) ?_
                  refine V.goto (tgt := 86) d_Mo_sheet_82 (by decide) ?_
                  refine V.msta 12 (by decide) (by decide) d_Mo_sheet_86 (by first | omega | (show _ < 4; omega)) ?_
                  refine V.iconst_ (nI 0) d_Mo_sheet_87 (by decide +kernel) ?_
                  refine V.istore d_Mo_sheet_88 (by decide) ?_
                  refine V.eqH (h' := mo q D (uA (uA (uA A 11 (upd (A 11) i y)) 12 (upd (A 12) i (nI 0))) 13 (zsg (A 13) i 0)) S h0) (by rw [shA_0]) ?_
                  refine V.lc (ls' := [(0, .ref q), (1, .int (nI i)), (2, .int y), (3, .int z), (4, .int (nI 0))]) rfl ?_
                  refine up_to (G := fun k => V l M_Mo_sheet (d + 2) 0 0 90 [(0, .ref q), (1, .int (nI i)), (2, .int y), (3, .int z), (4, .int (nI k))] [] n (mo q D (uA (uA (uA A 11 (upd (A 11) i y)) 12 (upd (A 12) i (nI 0))) 13 (zsg (A 13) i k)) S h0) 0 0 Q) (40) ?_ (fun k hk hn => ?_) 0 (by omega)
                  · skip
                    refine V.iload d_Mo_sheet_90 rfl ?_
                    refine V.bipush_ (nI 40) d_Mo_sheet_92 (by decide +kernel) ?_
                    refine V.geN (tgt := 116) d_Mo_sheet_94 (by decide) (by omega) (by omega) (fun c_94 => ?_) (fun c_94 => ?_)
                    · skip
                      refine V.iconst_ (nI 1) d_Mo_sheet_116 (by decide +kernel) ?_
                      refine V.iret d_Mo_sheet_117 rfl (Nat.le_of_ble_eq_true rfl) (Nat.le_of_ble_eq_true rfl) ?_
                      have hOk' := hOk i hi rfl (by first | exact Or.inl c_8 | exact Or.inr (Or.inl c_14) | exact Or.inr (Or.inr (Or.inl c_20)) | exact Or.inr (Or.inr (Or.inr c_26))) (fun z => absurd c_78 z)
                      rw [if_pos c_78] at hOk'
                      exact hOk'
                    · skip
                      exact absurd c_94 (by omega)
                  · skip
                    rw [← zsg_s] at hn
                    refine V.iload d_Mo_sheet_90 rfl ?_
                    refine V.bipush_ (nI 40) d_Mo_sheet_92 (by decide +kernel) ?_
                    refine V.geN (tgt := 116) d_Mo_sheet_94 (by decide) (by omega) (by omega) (fun c_94 => ?_) (fun c_94 => ?_)
                    · skip
                      exact absurd c_94 (by omega)
                    · skip
                      refine V.aload_n d_Mo_sheet_97 rfl ?_
                      refine V.get d_Mo_sheet_98 f_Mo_49_Mo mo_o rfl ?_
                      refine V.bipush_ (nI 40) d_Mo_sheet_101 (by decide +kernel) ?_
                      refine V.iload_n d_Mo_sheet_103 rfl ?_
                      refine V.mulN d_Mo_sheet_104 ?_
                      refine V.iload d_Mo_sheet_105 rfl ?_
                      refine V.addN d_Mo_sheet_107 ?_
                      refine V.iconst_ (nI 0) d_Mo_sheet_108 (by decide +kernel) ?_
                      refine V.msta 13 (by decide) (by decide) d_Mo_sheet_109 (by first | omega | (show _ < 160; omega)) ?_
                      refine V.incN d_Mo_sheet_110 rfl (by decide) ?_
                      refine V.goto (tgt := 90) d_Mo_sheet_113 (by decide) ?_
                      simp only [uA_uu, uA_s]
                      exact V.lc rfl hn
              · skip
                refine V.aload_n d_Mo_sheet_59 rfl ?_
                refine V.iconst_ (nI 1) d_Mo_sheet_60 (by decide +kernel) ?_
                refine V.callV1 d_Mo_sheet_61 k_Mo_138_Mo_finds_MoV mo_o (Nat.le_of_ble_eq_true rfl) (by omega) (by omega) (c_Mo_finds (by omega) ?_)
                refine V.iret d_Mo_sheet_64 rfl (Nat.le_of_ble_eq_true rfl) (Nat.le_of_ble_eq_true rfl) ?_
                exact hB c_4 (by first | exact Or.inl c_8 | exact Or.inr (Or.inl c_14) | exact Or.inr (Or.inr (Or.inl c_20)) | exact Or.inr (Or.inr (Or.inr c_26))) c_50 (by first | exact c_40 | exact absurd c_36 c_50) c_56
          · skip
            refine V.aload_n d_Mo_sheet_43 rfl ?_
            refine V.iconst_ (nI 3) d_Mo_sheet_44 (by decide +kernel) ?_
            refine V.callV1 d_Mo_sheet_45 k_Mo_138_Mo_finds_MoV mo_o (Nat.le_of_ble_eq_true rfl) (by omega) (by omega) (c_Mo_finds (by omega) ?_)
            refine V.iret d_Mo_sheet_48 rfl (Nat.le_of_ble_eq_true rfl) (Nat.le_of_ble_eq_true rfl) ?_
            exact hS c_4 (by first | exact Or.inl c_8 | exact Or.inr (Or.inl c_14) | exact Or.inr (Or.inr (Or.inl c_20)) | exact Or.inr (Or.inr (Or.inr c_26))) c_36 (Int32.not_le.mp c_40)
      · skip
        refine V.iload_n d_Mo_sheet_17 rfl ?_
        refine V.bipush_ (nI 16) d_Mo_sheet_18 (by decide +kernel) ?_
        refine V.icmp_eq (tgt := 35) d_Mo_sheet_20 (by decide) (fun c_20 => ?_) (fun c_20 => ?_)
        · skip
          refine V.iload_n d_Mo_sheet_35 rfl ?_
          refine V.if_eq (tgt := 49) d_Mo_sheet_36 (by decide) (fun c_36 => ?_) (fun c_36 => ?_)
          · skip
            refine V.iload_n d_Mo_sheet_49 rfl ?_
            refine V.if_eq (tgt := 65) d_Mo_sheet_50 (by decide) (fun c_50 => ?_) (fun c_50 => ?_)
            · skip
              obtain ⟨i, hi, rfl⟩ := wi_nat (by decide) c_4
              refine V.aload_n d_Mo_sheet_65 rfl ?_
              refine V.get d_Mo_sheet_66 f_Mo_43_Mo mo_o rfl ?_
              refine V.iload_n d_Mo_sheet_69 rfl ?_
              refine V.iload_n d_Mo_sheet_70 rfl ?_
              refine V.msta 11 (by decide) (by decide) d_Mo_sheet_71 (by first | omega | (show _ < 4; omega)) ?_
              refine V.aload_n d_Mo_sheet_72 rfl ?_
              refine V.get d_Mo_sheet_73 f_Mo_46_Mo mo_o rfl ?_
              refine V.iload_n d_Mo_sheet_76 rfl ?_
              refine V.iload_n d_Mo_sheet_77 rfl ?_
              refine V.if_ne (tgt := 85) d_Mo_sheet_78 (by decide) (fun c_78 => ?_) (fun c_78 => ?_)
              · skip
                refine V.iload_n d_Mo_sheet_85 rfl ?_
                refine V.msta 12 (by decide) (by decide) d_Mo_sheet_86 (by first | omega | (show _ < 4; omega)) ?_
                refine V.iconst_ (nI 0) d_Mo_sheet_87 (by decide +kernel) ?_
                refine V.istore d_Mo_sheet_88 (by decide) ?_
                refine V.eqH (h' := mo q D (uA (uA (uA A 11 (upd (A 11) i y)) 12 (upd (A 12) i (z))) 13 (zsg (A 13) i 0)) S h0) (by rw [shA_0]) ?_
                refine V.lc (ls' := [(0, .ref q), (1, .int (nI i)), (2, .int y), (3, .int z), (4, .int (nI 0))]) rfl ?_
                refine up_to (G := fun k => V l M_Mo_sheet (d + 2) 0 0 90 [(0, .ref q), (1, .int (nI i)), (2, .int y), (3, .int z), (4, .int (nI k))] [] n (mo q D (uA (uA (uA A 11 (upd (A 11) i y)) 12 (upd (A 12) i (z))) 13 (zsg (A 13) i k)) S h0) 0 0 Q) (40) ?_ (fun k hk hn => ?_) 0 (by omega)
                · skip
                  refine V.iload d_Mo_sheet_90 rfl ?_
                  refine V.bipush_ (nI 40) d_Mo_sheet_92 (by decide +kernel) ?_
                  refine V.geN (tgt := 116) d_Mo_sheet_94 (by decide) (by omega) (by omega) (fun c_94 => ?_) (fun c_94 => ?_)
                  · skip
                    refine V.iconst_ (nI 1) d_Mo_sheet_116 (by decide +kernel) ?_
                    refine V.iret d_Mo_sheet_117 rfl (Nat.le_of_ble_eq_true rfl) (Nat.le_of_ble_eq_true rfl) ?_
                    first
                    | exact absurd c_36 c_78
                    | exact absurd c_50 c_78
                    | exact absurd c_8 c_78
                    | (have hOk' := hOk i hi rfl (by first | exact Or.inl c_8 | exact Or.inr (Or.inl c_14) | exact Or.inr (Or.inr (Or.inl c_20)) | exact Or.inr (Or.inr (Or.inr c_26))) (fun z => ⟨c_40, c_56⟩)
                       rw [if_neg c_78] at hOk'
                       exact hOk')
                  · skip
                    exact absurd c_94 (by omega)
                · skip
                  rw [← zsg_s] at hn
                  refine V.iload d_Mo_sheet_90 rfl ?_
                  refine V.bipush_ (nI 40) d_Mo_sheet_92 (by decide +kernel) ?_
                  refine V.geN (tgt := 116) d_Mo_sheet_94 (by decide) (by omega) (by omega) (fun c_94 => ?_) (fun c_94 => ?_)
                  · skip
                    exact absurd c_94 (by omega)
                  · skip
                    refine V.aload_n d_Mo_sheet_97 rfl ?_
                    refine V.get d_Mo_sheet_98 f_Mo_49_Mo mo_o rfl ?_
                    refine V.bipush_ (nI 40) d_Mo_sheet_101 (by decide +kernel) ?_
                    refine V.iload_n d_Mo_sheet_103 rfl ?_
                    refine V.mulN d_Mo_sheet_104 ?_
                    refine V.iload d_Mo_sheet_105 rfl ?_
                    refine V.addN d_Mo_sheet_107 ?_
                    refine V.iconst_ (nI 0) d_Mo_sheet_108 (by decide +kernel) ?_
                    refine V.msta 13 (by decide) (by decide) d_Mo_sheet_109 (by first | omega | (show _ < 160; omega)) ?_
                    refine V.incN d_Mo_sheet_110 rfl (by decide) ?_
                    refine V.goto (tgt := 90) d_Mo_sheet_113 (by decide) ?_
                    simp only [uA_uu, uA_s]
                    exact V.lc rfl hn
              · skip
                refine V.iconst_ (nI 0) d_Mo_sheet_81 (by decide +kernel) ?_
                refine V.goto (tgt := 86) d_Mo_sheet_82 (by decide) ?_
                refine V.msta 12 (by decide) (by decide) d_Mo_sheet_86 (by first | omega | (show _ < 4; omega)) ?_
                refine V.iconst_ (nI 0) d_Mo_sheet_87 (by decide +kernel) ?_
                refine V.istore d_Mo_sheet_88 (by decide) ?_
                refine V.eqH (h' := mo q D (uA (uA (uA A 11 (upd (A 11) i y)) 12 (upd (A 12) i (nI 0))) 13 (zsg (A 13) i 0)) S h0) (by rw [shA_0]) ?_
                refine V.lc (ls' := [(0, .ref q), (1, .int (nI i)), (2, .int y), (3, .int z), (4, .int (nI 0))]) rfl ?_
                refine up_to (G := fun k => V l M_Mo_sheet (d + 2) 0 0 90 [(0, .ref q), (1, .int (nI i)), (2, .int y), (3, .int z), (4, .int (nI k))] [] n (mo q D (uA (uA (uA A 11 (upd (A 11) i y)) 12 (upd (A 12) i (nI 0))) 13 (zsg (A 13) i k)) S h0) 0 0 Q) (40) ?_ (fun k hk hn => ?_) 0 (by omega)
                · skip
                  refine V.iload d_Mo_sheet_90 rfl ?_
                  refine V.bipush_ (nI 40) d_Mo_sheet_92 (by decide +kernel) ?_
                  refine V.geN (tgt := 116) d_Mo_sheet_94 (by decide) (by omega) (by omega) (fun c_94 => ?_) (fun c_94 => ?_)
                  · skip
                    refine V.iconst_ (nI 1) d_Mo_sheet_116 (by decide +kernel) ?_
                    refine V.iret d_Mo_sheet_117 rfl (Nat.le_of_ble_eq_true rfl) (Nat.le_of_ble_eq_true rfl) ?_
                    have hOk' := hOk i hi rfl (by first | exact Or.inl c_8 | exact Or.inr (Or.inl c_14) | exact Or.inr (Or.inr (Or.inl c_20)) | exact Or.inr (Or.inr (Or.inr c_26))) (fun z => absurd c_78 z)
                    rw [if_pos c_78] at hOk'
                    exact hOk'
                  · skip
                    exact absurd c_94 (by omega)
                · skip
                  rw [← zsg_s] at hn
                  refine V.iload d_Mo_sheet_90 rfl ?_
                  refine V.bipush_ (nI 40) d_Mo_sheet_92 (by decide +kernel) ?_
                  refine V.geN (tgt := 116) d_Mo_sheet_94 (by decide) (by omega) (by omega) (fun c_94 => ?_) (fun c_94 => ?_)
                  · skip
                    exact absurd c_94 (by omega)
                  · skip
                    refine V.aload_n d_Mo_sheet_97 rfl ?_
                    refine V.get d_Mo_sheet_98 f_Mo_49_Mo mo_o rfl ?_
                    refine V.bipush_ (nI 40) d_Mo_sheet_101 (by decide +kernel) ?_
                    refine V.iload_n d_Mo_sheet_103 rfl ?_
                    refine V.mulN d_Mo_sheet_104 ?_
                    refine V.iload d_Mo_sheet_105 rfl ?_
                    refine V.addN d_Mo_sheet_107 ?_
                    refine V.iconst_ (nI 0) d_Mo_sheet_108 (by decide +kernel) ?_
                    refine V.msta 13 (by decide) (by decide) d_Mo_sheet_109 (by first | omega | (show _ < 160; omega)) ?_
                    refine V.incN d_Mo_sheet_110 rfl (by decide) ?_
                    refine V.goto (tgt := 90) d_Mo_sheet_113 (by decide) ?_
                    simp only [uA_uu, uA_s]
                    exact V.lc rfl hn
            · skip
              refine V.iload_n d_Mo_sheet_53 rfl ?_
              refine V.bipush_ (nI 40) d_Mo_sheet_54 (by decide +kernel) ?_
              refine V.icmp_le (tgt := 65) d_Mo_sheet_56 (by decide) (fun c_56 => ?_) (fun c_56 => ?_)
              · skip
                obtain ⟨i, hi, rfl⟩ := wi_nat (by decide) c_4
                refine V.aload_n d_Mo_sheet_65 rfl ?_
                refine V.get d_Mo_sheet_66 f_Mo_43_Mo mo_o rfl ?_
                refine V.iload_n d_Mo_sheet_69 rfl ?_
                refine V.iload_n d_Mo_sheet_70 rfl ?_
                refine V.msta 11 (by decide) (by decide) d_Mo_sheet_71 (by first | omega | (show _ < 4; omega)) ?_
                refine V.aload_n d_Mo_sheet_72 rfl ?_
                refine V.get d_Mo_sheet_73 f_Mo_46_Mo mo_o rfl ?_
                refine V.iload_n d_Mo_sheet_76 rfl ?_
                refine V.iload_n d_Mo_sheet_77 rfl ?_
                refine V.if_ne (tgt := 85) d_Mo_sheet_78 (by decide) (fun c_78 => ?_) (fun c_78 => ?_)
                · skip
                  refine V.iload_n d_Mo_sheet_85 rfl ?_
                  refine V.msta 12 (by decide) (by decide) d_Mo_sheet_86 (by first | omega | (show _ < 4; omega)) ?_
                  refine V.iconst_ (nI 0) d_Mo_sheet_87 (by decide +kernel) ?_
                  refine V.istore d_Mo_sheet_88 (by decide) ?_
                  refine V.eqH (h' := mo q D (uA (uA (uA A 11 (upd (A 11) i y)) 12 (upd (A 12) i (z))) 13 (zsg (A 13) i 0)) S h0) (by rw [shA_0]) ?_
                  refine V.lc (ls' := [(0, .ref q), (1, .int (nI i)), (2, .int y), (3, .int z), (4, .int (nI 0))]) rfl ?_
                  refine up_to (G := fun k => V l M_Mo_sheet (d + 2) 0 0 90 [(0, .ref q), (1, .int (nI i)), (2, .int y), (3, .int z), (4, .int (nI k))] [] n (mo q D (uA (uA (uA A 11 (upd (A 11) i y)) 12 (upd (A 12) i (z))) 13 (zsg (A 13) i k)) S h0) 0 0 Q) (40) ?_ (fun k hk hn => ?_) 0 (by omega)
                  · skip
                    refine V.iload d_Mo_sheet_90 rfl ?_
                    refine V.bipush_ (nI 40) d_Mo_sheet_92 (by decide +kernel) ?_
                    refine V.geN (tgt := 116) d_Mo_sheet_94 (by decide) (by omega) (by omega) (fun c_94 => ?_) (fun c_94 => ?_)
                    · skip
                      refine V.iconst_ (nI 1) d_Mo_sheet_116 (by decide +kernel) ?_
                      refine V.iret d_Mo_sheet_117 rfl (Nat.le_of_ble_eq_true rfl) (Nat.le_of_ble_eq_true rfl) ?_
                      first
                      | exact absurd c_36 c_78
                      | exact absurd c_50 c_78
                      | exact absurd c_8 c_78
                      | (have hOk' := hOk i hi rfl (by first | exact Or.inl c_8 | exact Or.inr (Or.inl c_14) | exact Or.inr (Or.inr (Or.inl c_20)) | exact Or.inr (Or.inr (Or.inr c_26))) (fun z => ⟨c_40, c_56⟩)
                         rw [if_neg c_78] at hOk'
                         exact hOk')
                    · skip
                      exact absurd c_94 (by omega)
                  · skip
                    rw [← zsg_s] at hn
                    refine V.iload d_Mo_sheet_90 rfl ?_
                    refine V.bipush_ (nI 40) d_Mo_sheet_92 (by decide +kernel) ?_
                    refine V.geN (tgt := 116) d_Mo_sheet_94 (by decide) (by omega) (by omega) (fun c_94 => ?_) (fun c_94 => ?_)
                    · skip
                      exact absurd c_94 (by omega)
                    · skip
                      refine V.aload_n d_Mo_sheet_97 rfl ?_
                      refine V.get d_Mo_sheet_98 f_Mo_49_Mo mo_o rfl ?_
                      refine V.bipush_ (nI 40) d_Mo_sheet_101 (by decide +kernel) ?_
                      refine V.iload_n d_Mo_sheet_103 rfl ?_
                      refine V.mulN d_Mo_sheet_104 ?_
                      refine V.iload d_Mo_sheet_105 rfl ?_
                      refine V.addN d_Mo_sheet_107 ?_
                      refine V.iconst_ (nI 0) d_Mo_sheet_108 (by decide +kernel) ?_
                      refine V.msta 13 (by decide) (by decide) d_Mo_sheet_109 (by first | omega | (show _ < 160; omega)) ?_
                      refine V.incN d_Mo_sheet_110 rfl (by decide) ?_
                      refine V.goto (tgt := 90) d_Mo_sheet_113 (by decide) ?_
                      simp only [uA_uu, uA_s]
                      exact V.lc rfl hn
                · skip
                  refine V.iconst_ (nI 0) d_Mo_sheet_81 (by decide +kernel) ?_
                  refine V.goto (tgt := 86) d_Mo_sheet_82 (by decide) ?_
                  refine V.msta 12 (by decide) (by decide) d_Mo_sheet_86 (by first | omega | (show _ < 4; omega)) ?_
                  refine V.iconst_ (nI 0) d_Mo_sheet_87 (by decide +kernel) ?_
                  refine V.istore d_Mo_sheet_88 (by decide) ?_
                  refine V.eqH (h' := mo q D (uA (uA (uA A 11 (upd (A 11) i y)) 12 (upd (A 12) i (nI 0))) 13 (zsg (A 13) i 0)) S h0) (by rw [shA_0]) ?_
                  refine V.lc (ls' := [(0, .ref q), (1, .int (nI i)), (2, .int y), (3, .int z), (4, .int (nI 0))]) rfl ?_
                  refine up_to (G := fun k => V l M_Mo_sheet (d + 2) 0 0 90 [(0, .ref q), (1, .int (nI i)), (2, .int y), (3, .int z), (4, .int (nI k))] [] n (mo q D (uA (uA (uA A 11 (upd (A 11) i y)) 12 (upd (A 12) i (nI 0))) 13 (zsg (A 13) i k)) S h0) 0 0 Q) (40) ?_ (fun k hk hn => ?_) 0 (by omega)
                  · skip
                    refine V.iload d_Mo_sheet_90 rfl ?_
                    refine V.bipush_ (nI 40) d_Mo_sheet_92 (by decide +kernel) ?_
                    refine V.geN (tgt := 116) d_Mo_sheet_94 (by decide) (by omega) (by omega) (fun c_94 => ?_) (fun c_94 => ?_)
                    · skip
                      refine V.iconst_ (nI 1) d_Mo_sheet_116 (by decide +kernel) ?_
                      refine V.iret d_Mo_sheet_117 rfl (Nat.le_of_ble_eq_true rfl) (Nat.le_of_ble_eq_true rfl) ?_
                      have hOk' := hOk i hi rfl (by first | exact Or.inl c_8 | exact Or.inr (Or.inl c_14) | exact Or.inr (Or.inr (Or.inl c_20)) | exact Or.inr (Or.inr (Or.inr c_26))) (fun z => absurd c_78 z)
                      rw [if_pos c_78] at hOk'
                      exact hOk'
                    · skip
                      exact absurd c_94 (by omega)
                  · skip
                    rw [← zsg_s] at hn
                    refine V.iload d_Mo_sheet_90 rfl ?_
                    refine V.bipush_ (nI 40) d_Mo_sheet_92 (by decide +kernel) ?_
                    refine V.geN (tgt := 116) d_Mo_sheet_94 (by decide) (by omega) (by omega) (fun c_94 => ?_) (fun c_94 => ?_)
                    · skip
                      exact absurd c_94 (by omega)
                    · skip
                      refine V.aload_n d_Mo_sheet_97 rfl ?_
                      refine V.get d_Mo_sheet_98 f_Mo_49_Mo mo_o rfl ?_
                      refine V.bipush_ (nI 40) d_Mo_sheet_101 (by decide +kernel) ?_
                      refine V.iload_n d_Mo_sheet_103 rfl ?_
                      refine V.mulN d_Mo_sheet_104 ?_
                      refine V.iload d_Mo_sheet_105 rfl ?_
                      refine V.addN d_Mo_sheet_107 ?_
                      refine V.iconst_ (nI 0) d_Mo_sheet_108 (by decide +kernel) ?_
                      refine V.msta 13 (by decide) (by decide) d_Mo_sheet_109 (by first | omega | (show _ < 160; omega)) ?_
                      refine V.incN d_Mo_sheet_110 rfl (by decide) ?_
                      refine V.goto (tgt := 90) d_Mo_sheet_113 (by decide) ?_
                      simp only [uA_uu, uA_s]
                      exact V.lc rfl hn
              · skip
                refine V.aload_n d_Mo_sheet_59 rfl ?_
                refine V.iconst_ (nI 1) d_Mo_sheet_60 (by decide +kernel) ?_
                refine V.callV1 d_Mo_sheet_61 k_Mo_138_Mo_finds_MoV mo_o (Nat.le_of_ble_eq_true rfl) (by omega) (by omega) (c_Mo_finds (by omega) ?_)
                refine V.iret d_Mo_sheet_64 rfl (Nat.le_of_ble_eq_true rfl) (Nat.le_of_ble_eq_true rfl) ?_
                exact hB c_4 (by first | exact Or.inl c_8 | exact Or.inr (Or.inl c_14) | exact Or.inr (Or.inr (Or.inl c_20)) | exact Or.inr (Or.inr (Or.inr c_26))) c_50 (by first | exact c_40 | exact absurd c_36 c_50) c_56
          · skip
            refine V.iload_n d_Mo_sheet_39 rfl ?_
            refine V.if_ge (tgt := 49) d_Mo_sheet_40 (by decide) (fun c_40 => ?_) (fun c_40 => ?_)
            · skip
              refine V.iload_n d_Mo_sheet_49 rfl ?_
              refine V.if_eq (tgt := 65) d_Mo_sheet_50 (by decide) (fun c_50 => ?_) (fun c_50 => ?_)
              · skip
                obtain ⟨i, hi, rfl⟩ := wi_nat (by decide) c_4
                refine V.aload_n d_Mo_sheet_65 rfl ?_
                refine V.get d_Mo_sheet_66 f_Mo_43_Mo mo_o rfl ?_
                refine V.iload_n d_Mo_sheet_69 rfl ?_
                refine V.iload_n d_Mo_sheet_70 rfl ?_
                refine V.msta 11 (by decide) (by decide) d_Mo_sheet_71 (by first | omega | (show _ < 4; omega)) ?_
                refine V.aload_n d_Mo_sheet_72 rfl ?_
                refine V.get d_Mo_sheet_73 f_Mo_46_Mo mo_o rfl ?_
                refine V.iload_n d_Mo_sheet_76 rfl ?_
                refine V.iload_n d_Mo_sheet_77 rfl ?_
                refine V.if_ne (tgt := 85) d_Mo_sheet_78 (by decide) (fun c_78 => ?_) (fun c_78 => ?_)
                · skip
                  refine V.iload_n d_Mo_sheet_85 rfl ?_
                  refine V.msta 12 (by decide) (by decide) d_Mo_sheet_86 (by first | omega | (show _ < 4; omega)) ?_
                  refine V.iconst_ (nI 0) d_Mo_sheet_87 (by decide +kernel) ?_
                  refine V.istore d_Mo_sheet_88 (by decide) ?_
                  refine V.eqH (h' := mo q D (uA (uA (uA A 11 (upd (A 11) i y)) 12 (upd (A 12) i (z))) 13 (zsg (A 13) i 0)) S h0) (by rw [shA_0]) ?_
                  refine V.lc (ls' := [(0, .ref q), (1, .int (nI i)), (2, .int y), (3, .int z), (4, .int (nI 0))]) rfl ?_
                  refine up_to (G := fun k => V l M_Mo_sheet (d + 2) 0 0 90 [(0, .ref q), (1, .int (nI i)), (2, .int y), (3, .int z), (4, .int (nI k))] [] n (mo q D (uA (uA (uA A 11 (upd (A 11) i y)) 12 (upd (A 12) i (z))) 13 (zsg (A 13) i k)) S h0) 0 0 Q) (40) ?_ (fun k hk hn => ?_) 0 (by omega)
                  · skip
                    refine V.iload d_Mo_sheet_90 rfl ?_
                    refine V.bipush_ (nI 40) d_Mo_sheet_92 (by decide +kernel) ?_
                    refine V.geN (tgt := 116) d_Mo_sheet_94 (by decide) (by omega) (by omega) (fun c_94 => ?_) (fun c_94 => ?_)
                    · skip
                      refine V.iconst_ (nI 1) d_Mo_sheet_116 (by decide +kernel) ?_
                      refine V.iret d_Mo_sheet_117 rfl (Nat.le_of_ble_eq_true rfl) (Nat.le_of_ble_eq_true rfl) ?_
                      first
                      | exact absurd c_36 c_78
                      | exact absurd c_50 c_78
                      | exact absurd c_8 c_78
                      | (have hOk' := hOk i hi rfl (by first | exact Or.inl c_8 | exact Or.inr (Or.inl c_14) | exact Or.inr (Or.inr (Or.inl c_20)) | exact Or.inr (Or.inr (Or.inr c_26))) (fun z => ⟨c_40, c_56⟩)
                         rw [if_neg c_78] at hOk'
                         exact hOk')
                    · skip
                      exact absurd c_94 (by omega)
                  · skip
                    rw [← zsg_s] at hn
                    refine V.iload d_Mo_sheet_90 rfl ?_
                    refine V.bipush_ (nI 40) d_Mo_sheet_92 (by decide +kernel) ?_
                    refine V.geN (tgt := 116) d_Mo_sheet_94 (by decide) (by omega) (by omega) (fun c_94 => ?_) (fun c_94 => ?_)
                    · skip
                      exact absurd c_94 (by omega)
                    · skip
                      refine V.aload_n d_Mo_sheet_97 rfl ?_
                      refine V.get d_Mo_sheet_98 f_Mo_49_Mo mo_o rfl ?_
                      refine V.bipush_ (nI 40) d_Mo_sheet_101 (by decide +kernel) ?_
                      refine V.iload_n d_Mo_sheet_103 rfl ?_
                      refine V.mulN d_Mo_sheet_104 ?_
                      refine V.iload d_Mo_sheet_105 rfl ?_
                      refine V.addN d_Mo_sheet_107 ?_
                      refine V.iconst_ (nI 0) d_Mo_sheet_108 (by decide +kernel) ?_
                      refine V.msta 13 (by decide) (by decide) d_Mo_sheet_109 (by first | omega | (show _ < 160; omega)) ?_
                      refine V.incN d_Mo_sheet_110 rfl (by decide) ?_
                      refine V.goto (tgt := 90) d_Mo_sheet_113 (by decide) ?_
                      simp only [uA_uu, uA_s]
                      exact V.lc rfl hn
                · skip
                  refine V.iconst_ (nI 0) d_Mo_sheet_81 (by decide +kernel) ?_
                  refine V.goto (tgt := 86) d_Mo_sheet_82 (by decide) ?_
                  refine V.msta 12 (by decide) (by decide) d_Mo_sheet_86 (by first | omega | (show _ < 4; omega)) ?_
                  refine V.iconst_ (nI 0) d_Mo_sheet_87 (by decide +kernel) ?_
                  refine V.istore d_Mo_sheet_88 (by decide) ?_
                  refine V.eqH (h' := mo q D (uA (uA (uA A 11 (upd (A 11) i y)) 12 (upd (A 12) i (nI 0))) 13 (zsg (A 13) i 0)) S h0) (by rw [shA_0]) ?_
                  refine V.lc (ls' := [(0, .ref q), (1, .int (nI i)), (2, .int y), (3, .int z), (4, .int (nI 0))]) rfl ?_
                  refine up_to (G := fun k => V l M_Mo_sheet (d + 2) 0 0 90 [(0, .ref q), (1, .int (nI i)), (2, .int y), (3, .int z), (4, .int (nI k))] [] n (mo q D (uA (uA (uA A 11 (upd (A 11) i y)) 12 (upd (A 12) i (nI 0))) 13 (zsg (A 13) i k)) S h0) 0 0 Q) (40) ?_ (fun k hk hn => ?_) 0 (by omega)
                  · skip
                    refine V.iload d_Mo_sheet_90 rfl ?_
                    refine V.bipush_ (nI 40) d_Mo_sheet_92 (by decide +kernel) ?_
                    refine V.geN (tgt := 116) d_Mo_sheet_94 (by decide) (by omega) (by omega) (fun c_94 => ?_) (fun c_94 => ?_)
                    · skip
                      refine V.iconst_ (nI 1) d_Mo_sheet_116 (by decide +kernel) ?_
                      refine V.iret d_Mo_sheet_117 rfl (Nat.le_of_ble_eq_true rfl) (Nat.le_of_ble_eq_true rfl) ?_
                      have hOk' := hOk i hi rfl (by first | exact Or.inl c_8 | exact Or.inr (Or.inl c_14) | exact Or.inr (Or.inr (Or.inl c_20)) | exact Or.inr (Or.inr (Or.inr c_26))) (fun z => absurd c_78 z)
                      rw [if_pos c_78] at hOk'
                      exact hOk'
                    · skip
                      exact absurd c_94 (by omega)
                  · skip
                    rw [← zsg_s] at hn
                    refine V.iload d_Mo_sheet_90 rfl ?_
                    refine V.bipush_ (nI 40) d_Mo_sheet_92 (by decide +kernel) ?_
                    refine V.geN (tgt := 116) d_Mo_sheet_94 (by decide) (by omega) (by omega) (fun c_94 => ?_) (fun c_94 => ?_)
                    · skip
                      exact absurd c_94 (by omega)
                    · skip
                      refine V.aload_n d_Mo_sheet_97 rfl ?_
                      refine V.get d_Mo_sheet_98 f_Mo_49_Mo mo_o rfl ?_
                      refine V.bipush_ (nI 40) d_Mo_sheet_101 (by decide +kernel) ?_
                      refine V.iload_n d_Mo_sheet_103 rfl ?_
                      refine V.mulN d_Mo_sheet_104 ?_
                      refine V.iload d_Mo_sheet_105 rfl ?_
                      refine V.addN d_Mo_sheet_107 ?_
                      refine V.iconst_ (nI 0) d_Mo_sheet_108 (by decide +kernel) ?_
                      refine V.msta 13 (by decide) (by decide) d_Mo_sheet_109 (by first | omega | (show _ < 160; omega)) ?_
                      refine V.incN d_Mo_sheet_110 rfl (by decide) ?_
                      refine V.goto (tgt := 90) d_Mo_sheet_113 (by decide) ?_
                      simp only [uA_uu, uA_s]
                      exact V.lc rfl hn
              · skip
                refine V.iload_n d_Mo_sheet_53 rfl ?_
                refine V.bipush_ (nI 40) d_Mo_sheet_54 (by decide +kernel) ?_
                refine V.icmp_le (tgt := 65) d_Mo_sheet_56 (by decide) (fun c_56 => ?_) (fun c_56 => ?_)
                · skip
                  obtain ⟨i, hi, rfl⟩ := wi_nat (by decide) c_4
                  refine V.aload_n d_Mo_sheet_65 rfl ?_
                  refine V.get d_Mo_sheet_66 f_Mo_43_Mo mo_o rfl ?_
                  refine V.iload_n d_Mo_sheet_69 rfl ?_
                  refine V.iload_n d_Mo_sheet_70 rfl ?_
                  refine V.msta 11 (by decide) (by decide) d_Mo_sheet_71 (by first | omega | (show _ < 4; omega)) ?_
                  refine V.aload_n d_Mo_sheet_72 rfl ?_
                  refine V.get d_Mo_sheet_73 f_Mo_46_Mo mo_o rfl ?_
                  refine V.iload_n d_Mo_sheet_76 rfl ?_
                  refine V.iload_n d_Mo_sheet_77 rfl ?_
                  refine V.if_ne (tgt := 85) d_Mo_sheet_78 (by decide) (fun c_78 => ?_) (fun c_78 => ?_)
                  · skip
                    refine V.iload_n d_Mo_sheet_85 rfl ?_
                    refine V.msta 12 (by decide) (by decide) d_Mo_sheet_86 (by first | omega | (show _ < 4; omega)) ?_
                    refine V.iconst_ (nI 0) d_Mo_sheet_87 (by decide +kernel) ?_
                    refine V.istore d_Mo_sheet_88 (by decide) ?_
                    refine V.eqH (h' := mo q D (uA (uA (uA A 11 (upd (A 11) i y)) 12 (upd (A 12) i (z))) 13 (zsg (A 13) i 0)) S h0) (by rw [shA_0]) ?_
                    refine V.lc (ls' := [(0, .ref q), (1, .int (nI i)), (2, .int y), (3, .int z), (4, .int (nI 0))]) rfl ?_
                    refine up_to (G := fun k => V l M_Mo_sheet (d + 2) 0 0 90 [(0, .ref q), (1, .int (nI i)), (2, .int y), (3, .int z), (4, .int (nI k))] [] n (mo q D (uA (uA (uA A 11 (upd (A 11) i y)) 12 (upd (A 12) i (z))) 13 (zsg (A 13) i k)) S h0) 0 0 Q) (40) ?_ (fun k hk hn => ?_) 0 (by omega)
                    · skip
                      refine V.iload d_Mo_sheet_90 rfl ?_
                      refine V.bipush_ (nI 40) d_Mo_sheet_92 (by decide +kernel) ?_
                      refine V.geN (tgt := 116) d_Mo_sheet_94 (by decide) (by omega) (by omega) (fun c_94 => ?_) (fun c_94 => ?_)
                      · skip
                        refine V.iconst_ (nI 1) d_Mo_sheet_116 (by decide +kernel) ?_
                        refine V.iret d_Mo_sheet_117 rfl (Nat.le_of_ble_eq_true rfl) (Nat.le_of_ble_eq_true rfl) ?_
                        first
                        | exact absurd c_36 c_78
                        | exact absurd c_50 c_78
                        | exact absurd c_8 c_78
                        | (have hOk' := hOk i hi rfl (by first | exact Or.inl c_8 | exact Or.inr (Or.inl c_14) | exact Or.inr (Or.inr (Or.inl c_20)) | exact Or.inr (Or.inr (Or.inr c_26))) (fun z => ⟨c_40, c_56⟩)
                           rw [if_neg c_78] at hOk'
                           exact hOk')
                      · skip
                        exact absurd c_94 (by omega)
                    · skip
                      rw [← zsg_s] at hn
                      refine V.iload d_Mo_sheet_90 rfl ?_
                      refine V.bipush_ (nI 40) d_Mo_sheet_92 (by decide +kernel) ?_
                      refine V.geN (tgt := 116) d_Mo_sheet_94 (by decide) (by omega) (by omega) (fun c_94 => ?_) (fun c_94 => ?_)
                      · skip
                        exact absurd c_94 (by omega)
                      · skip
                        refine V.aload_n d_Mo_sheet_97 rfl ?_
                        refine V.get d_Mo_sheet_98 f_Mo_49_Mo mo_o rfl ?_
                        refine V.bipush_ (nI 40) d_Mo_sheet_101 (by decide +kernel) ?_
                        refine V.iload_n d_Mo_sheet_103 rfl ?_
                        refine V.mulN d_Mo_sheet_104 ?_
                        refine V.iload d_Mo_sheet_105 rfl ?_
                        refine V.addN d_Mo_sheet_107 ?_
                        refine V.iconst_ (nI 0) d_Mo_sheet_108 (by decide +kernel) ?_
                        refine V.msta 13 (by decide) (by decide) d_Mo_sheet_109 (by first | omega | (show _ < 160; omega)) ?_
                        refine V.incN d_Mo_sheet_110 rfl (by decide) ?_
                        refine V.goto (tgt := 90) d_Mo_sheet_113 (by decide) ?_
                        simp only [uA_uu, uA_s]
                        exact V.lc rfl hn
                  · skip
                    refine V.iconst_ (nI 0) d_Mo_sheet_81 (by decide +kernel) ?_
                    refine V.goto (tgt := 86) d_Mo_sheet_82 (by decide) ?_
                    refine V.msta 12 (by decide) (by decide) d_Mo_sheet_86 (by first | omega | (show _ < 4; omega)) ?_
                    refine V.iconst_ (nI 0) d_Mo_sheet_87 (by decide +kernel) ?_
                    refine V.istore d_Mo_sheet_88 (by decide) ?_
                    refine V.eqH (h' := mo q D (uA (uA (uA A 11 (upd (A 11) i y)) 12 (upd (A 12) i (nI 0))) 13 (zsg (A 13) i 0)) S h0) (by rw [shA_0]) ?_
                    refine V.lc (ls' := [(0, .ref q), (1, .int (nI i)), (2, .int y), (3, .int z), (4, .int (nI 0))]) rfl ?_
                    refine up_to (G := fun k => V l M_Mo_sheet (d + 2) 0 0 90 [(0, .ref q), (1, .int (nI i)), (2, .int y), (3, .int z), (4, .int (nI k))] [] n (mo q D (uA (uA (uA A 11 (upd (A 11) i y)) 12 (upd (A 12) i (nI 0))) 13 (zsg (A 13) i k)) S h0) 0 0 Q) (40) ?_ (fun k hk hn => ?_) 0 (by omega)
                    · skip
                      refine V.iload d_Mo_sheet_90 rfl ?_
                      refine V.bipush_ (nI 40) d_Mo_sheet_92 (by decide +kernel) ?_
                      refine V.geN (tgt := 116) d_Mo_sheet_94 (by decide) (by omega) (by omega) (fun c_94 => ?_) (fun c_94 => ?_)
                      · skip
                        refine V.iconst_ (nI 1) d_Mo_sheet_116 (by decide +kernel) ?_
                        refine V.iret d_Mo_sheet_117 rfl (Nat.le_of_ble_eq_true rfl) (Nat.le_of_ble_eq_true rfl) ?_
                        have hOk' := hOk i hi rfl (by first | exact Or.inl c_8 | exact Or.inr (Or.inl c_14) | exact Or.inr (Or.inr (Or.inl c_20)) | exact Or.inr (Or.inr (Or.inr c_26))) (fun z => absurd c_78 z)
                        rw [if_pos c_78] at hOk'
                        exact hOk'
                      · skip
                        exact absurd c_94 (by omega)
                    · skip
                      rw [← zsg_s] at hn
                      refine V.iload d_Mo_sheet_90 rfl ?_
                      refine V.bipush_ (nI 40) d_Mo_sheet_92 (by decide +kernel) ?_
                      refine V.geN (tgt := 116) d_Mo_sheet_94 (by decide) (by omega) (by omega) (fun c_94 => ?_) (fun c_94 => ?_)
                      · skip
                        exact absurd c_94 (by omega)
                      · skip
                        refine V.aload_n d_Mo_sheet_97 rfl ?_
                        refine V.get d_Mo_sheet_98 f_Mo_49_Mo mo_o rfl ?_
                        refine V.bipush_ (nI 40) d_Mo_sheet_101 (by decide +kernel) ?_
                        refine V.iload_n d_Mo_sheet_103 rfl ?_
                        refine V.mulN d_Mo_sheet_104 ?_
                        refine V.iload d_Mo_sheet_105 rfl ?_
                        refine V.addN d_Mo_sheet_107 ?_
                        refine V.iconst_ (nI 0) d_Mo_sheet_108 (by decide +kernel) ?_
                        refine V.msta 13 (by decide) (by decide) d_Mo_sheet_109 (by first | omega | (show _ < 160; omega)) ?_
                        refine V.incN d_Mo_sheet_110 rfl (by decide) ?_
                        refine V.goto (tgt := 90) d_Mo_sheet_113 (by decide) ?_
                        simp only [uA_uu, uA_s]
                        exact V.lc rfl hn
                · skip
                  refine V.aload_n d_Mo_sheet_59 rfl ?_
                  refine V.iconst_ (nI 1) d_Mo_sheet_60 (by decide +kernel) ?_
                  refine V.callV1 d_Mo_sheet_61 k_Mo_138_Mo_finds_MoV mo_o (Nat.le_of_ble_eq_true rfl) (by omega) (by omega) (c_Mo_finds (by omega) ?_)
                  refine V.iret d_Mo_sheet_64 rfl (Nat.le_of_ble_eq_true rfl) (Nat.le_of_ble_eq_true rfl) ?_
                  exact hB c_4 (by first | exact Or.inl c_8 | exact Or.inr (Or.inl c_14) | exact Or.inr (Or.inr (Or.inl c_20)) | exact Or.inr (Or.inr (Or.inr c_26))) c_50 (by first | exact c_40 | exact absurd c_36 c_50) c_56
            · skip
              refine V.aload_n d_Mo_sheet_43 rfl ?_
              refine V.iconst_ (nI 3) d_Mo_sheet_44 (by decide +kernel) ?_
              refine V.callV1 d_Mo_sheet_45 k_Mo_138_Mo_finds_MoV mo_o (Nat.le_of_ble_eq_true rfl) (by omega) (by omega) (c_Mo_finds (by omega) ?_)
              refine V.iret d_Mo_sheet_48 rfl (Nat.le_of_ble_eq_true rfl) (Nat.le_of_ble_eq_true rfl) ?_
              exact hS c_4 (by first | exact Or.inl c_8 | exact Or.inr (Or.inl c_14) | exact Or.inr (Or.inr (Or.inl c_20)) | exact Or.inr (Or.inr (Or.inr c_26))) c_36 (Int32.not_le.mp c_40)
        · skip
          refine V.iload_n d_Mo_sheet_23 rfl ?_
          refine V.bipush_ (nI 32) d_Mo_sheet_24 (by decide +kernel) ?_
          refine V.icmp_eq (tgt := 35) d_Mo_sheet_26 (by decide) (fun c_26 => ?_) (fun c_26 => ?_)
          · skip
            refine V.iload_n d_Mo_sheet_35 rfl ?_
            refine V.if_eq (tgt := 49) d_Mo_sheet_36 (by decide) (fun c_36 => ?_) (fun c_36 => ?_)
            · skip
              refine V.iload_n d_Mo_sheet_49 rfl ?_
              refine V.if_eq (tgt := 65) d_Mo_sheet_50 (by decide) (fun c_50 => ?_) (fun c_50 => ?_)
              · skip
                obtain ⟨i, hi, rfl⟩ := wi_nat (by decide) c_4
                refine V.aload_n d_Mo_sheet_65 rfl ?_
                refine V.get d_Mo_sheet_66 f_Mo_43_Mo mo_o rfl ?_
                refine V.iload_n d_Mo_sheet_69 rfl ?_
                refine V.iload_n d_Mo_sheet_70 rfl ?_
                refine V.msta 11 (by decide) (by decide) d_Mo_sheet_71 (by first | omega | (show _ < 4; omega)) ?_
                refine V.aload_n d_Mo_sheet_72 rfl ?_
                refine V.get d_Mo_sheet_73 f_Mo_46_Mo mo_o rfl ?_
                refine V.iload_n d_Mo_sheet_76 rfl ?_
                refine V.iload_n d_Mo_sheet_77 rfl ?_
                refine V.if_ne (tgt := 85) d_Mo_sheet_78 (by decide) (fun c_78 => ?_) (fun c_78 => ?_)
                · skip
                  refine V.iload_n d_Mo_sheet_85 rfl ?_
                  refine V.msta 12 (by decide) (by decide) d_Mo_sheet_86 (by first | omega | (show _ < 4; omega)) ?_
                  refine V.iconst_ (nI 0) d_Mo_sheet_87 (by decide +kernel) ?_
                  refine V.istore d_Mo_sheet_88 (by decide) ?_
                  refine V.eqH (h' := mo q D (uA (uA (uA A 11 (upd (A 11) i y)) 12 (upd (A 12) i (z))) 13 (zsg (A 13) i 0)) S h0) (by rw [shA_0]) ?_
                  refine V.lc (ls' := [(0, .ref q), (1, .int (nI i)), (2, .int y), (3, .int z), (4, .int (nI 0))]) rfl ?_
                  refine up_to (G := fun k => V l M_Mo_sheet (d + 2) 0 0 90 [(0, .ref q), (1, .int (nI i)), (2, .int y), (3, .int z), (4, .int (nI k))] [] n (mo q D (uA (uA (uA A 11 (upd (A 11) i y)) 12 (upd (A 12) i (z))) 13 (zsg (A 13) i k)) S h0) 0 0 Q) (40) ?_ (fun k hk hn => ?_) 0 (by omega)
                  · skip
                    refine V.iload d_Mo_sheet_90 rfl ?_
                    refine V.bipush_ (nI 40) d_Mo_sheet_92 (by decide +kernel) ?_
                    refine V.geN (tgt := 116) d_Mo_sheet_94 (by decide) (by omega) (by omega) (fun c_94 => ?_) (fun c_94 => ?_)
                    · skip
                      refine V.iconst_ (nI 1) d_Mo_sheet_116 (by decide +kernel) ?_
                      refine V.iret d_Mo_sheet_117 rfl (Nat.le_of_ble_eq_true rfl) (Nat.le_of_ble_eq_true rfl) ?_
                      first
                      | exact absurd c_36 c_78
                      | exact absurd c_50 c_78
                      | exact absurd c_8 c_78
                      | (have hOk' := hOk i hi rfl (by first | exact Or.inl c_8 | exact Or.inr (Or.inl c_14) | exact Or.inr (Or.inr (Or.inl c_20)) | exact Or.inr (Or.inr (Or.inr c_26))) (fun z => ⟨c_40, c_56⟩)
                         rw [if_neg c_78] at hOk'
                         exact hOk')
                    · skip
                      exact absurd c_94 (by omega)
                  · skip
                    rw [← zsg_s] at hn
                    refine V.iload d_Mo_sheet_90 rfl ?_
                    refine V.bipush_ (nI 40) d_Mo_sheet_92 (by decide +kernel) ?_
                    refine V.geN (tgt := 116) d_Mo_sheet_94 (by decide) (by omega) (by omega) (fun c_94 => ?_) (fun c_94 => ?_)
                    · skip
                      exact absurd c_94 (by omega)
                    · skip
                      refine V.aload_n d_Mo_sheet_97 rfl ?_
                      refine V.get d_Mo_sheet_98 f_Mo_49_Mo mo_o rfl ?_
                      refine V.bipush_ (nI 40) d_Mo_sheet_101 (by decide +kernel) ?_
                      refine V.iload_n d_Mo_sheet_103 rfl ?_
                      refine V.mulN d_Mo_sheet_104 ?_
                      refine V.iload d_Mo_sheet_105 rfl ?_
                      refine V.addN d_Mo_sheet_107 ?_
                      refine V.iconst_ (nI 0) d_Mo_sheet_108 (by decide +kernel) ?_
                      refine V.msta 13 (by decide) (by decide) d_Mo_sheet_109 (by first | omega | (show _ < 160; omega)) ?_
                      refine V.incN d_Mo_sheet_110 rfl (by decide) ?_
                      refine V.goto (tgt := 90) d_Mo_sheet_113 (by decide) ?_
                      simp only [uA_uu, uA_s]
                      exact V.lc rfl hn
                · skip
                  refine V.iconst_ (nI 0) d_Mo_sheet_81 (by decide +kernel) ?_
                  refine V.goto (tgt := 86) d_Mo_sheet_82 (by decide) ?_
                  refine V.msta 12 (by decide) (by decide) d_Mo_sheet_86 (by first | omega | (show _ < 4; omega)) ?_
                  refine V.iconst_ (nI 0) d_Mo_sheet_87 (by decide +kernel) ?_
                  refine V.istore d_Mo_sheet_88 (by decide) ?_
                  refine V.eqH (h' := mo q D (uA (uA (uA A 11 (upd (A 11) i y)) 12 (upd (A 12) i (nI 0))) 13 (zsg (A 13) i 0)) S h0) (by rw [shA_0]) ?_
                  refine V.lc (ls' := [(0, .ref q), (1, .int (nI i)), (2, .int y), (3, .int z), (4, .int (nI 0))]) rfl ?_
                  refine up_to (G := fun k => V l M_Mo_sheet (d + 2) 0 0 90 [(0, .ref q), (1, .int (nI i)), (2, .int y), (3, .int z), (4, .int (nI k))] [] n (mo q D (uA (uA (uA A 11 (upd (A 11) i y)) 12 (upd (A 12) i (nI 0))) 13 (zsg (A 13) i k)) S h0) 0 0 Q) (40) ?_ (fun k hk hn => ?_) 0 (by omega)
                  · skip
                    refine V.iload d_Mo_sheet_90 rfl ?_
                    refine V.bipush_ (nI 40) d_Mo_sheet_92 (by decide +kernel) ?_
                    refine V.geN (tgt := 116) d_Mo_sheet_94 (by decide) (by omega) (by omega) (fun c_94 => ?_) (fun c_94 => ?_)
                    · skip
                      refine V.iconst_ (nI 1) d_Mo_sheet_116 (by decide +kernel) ?_
                      refine V.iret d_Mo_sheet_117 rfl (Nat.le_of_ble_eq_true rfl) (Nat.le_of_ble_eq_true rfl) ?_
                      have hOk' := hOk i hi rfl (by first | exact Or.inl c_8 | exact Or.inr (Or.inl c_14) | exact Or.inr (Or.inr (Or.inl c_20)) | exact Or.inr (Or.inr (Or.inr c_26))) (fun z => absurd c_78 z)
                      rw [if_pos c_78] at hOk'
                      exact hOk'
                    · skip
                      exact absurd c_94 (by omega)
                  · skip
                    rw [← zsg_s] at hn
                    refine V.iload d_Mo_sheet_90 rfl ?_
                    refine V.bipush_ (nI 40) d_Mo_sheet_92 (by decide +kernel) ?_
                    refine V.geN (tgt := 116) d_Mo_sheet_94 (by decide) (by omega) (by omega) (fun c_94 => ?_) (fun c_94 => ?_)
                    · skip
                      exact absurd c_94 (by omega)
                    · skip
                      refine V.aload_n d_Mo_sheet_97 rfl ?_
                      refine V.get d_Mo_sheet_98 f_Mo_49_Mo mo_o rfl ?_
                      refine V.bipush_ (nI 40) d_Mo_sheet_101 (by decide +kernel) ?_
                      refine V.iload_n d_Mo_sheet_103 rfl ?_
                      refine V.mulN d_Mo_sheet_104 ?_
                      refine V.iload d_Mo_sheet_105 rfl ?_
                      refine V.addN d_Mo_sheet_107 ?_
                      refine V.iconst_ (nI 0) d_Mo_sheet_108 (by decide +kernel) ?_
                      refine V.msta 13 (by decide) (by decide) d_Mo_sheet_109 (by first | omega | (show _ < 160; omega)) ?_
                      refine V.incN d_Mo_sheet_110 rfl (by decide) ?_
                      refine V.goto (tgt := 90) d_Mo_sheet_113 (by decide) ?_
                      simp only [uA_uu, uA_s]
                      exact V.lc rfl hn
              · skip
                refine V.iload_n d_Mo_sheet_53 rfl ?_
                refine V.bipush_ (nI 40) d_Mo_sheet_54 (by decide +kernel) ?_
                refine V.icmp_le (tgt := 65) d_Mo_sheet_56 (by decide) (fun c_56 => ?_) (fun c_56 => ?_)
                · skip
                  obtain ⟨i, hi, rfl⟩ := wi_nat (by decide) c_4
                  refine V.aload_n d_Mo_sheet_65 rfl ?_
                  refine V.get d_Mo_sheet_66 f_Mo_43_Mo mo_o rfl ?_
                  refine V.iload_n d_Mo_sheet_69 rfl ?_
                  refine V.iload_n d_Mo_sheet_70 rfl ?_
                  refine V.msta 11 (by decide) (by decide) d_Mo_sheet_71 (by first | omega | (show _ < 4; omega)) ?_
                  refine V.aload_n d_Mo_sheet_72 rfl ?_
                  refine V.get d_Mo_sheet_73 f_Mo_46_Mo mo_o rfl ?_
                  refine V.iload_n d_Mo_sheet_76 rfl ?_
                  refine V.iload_n d_Mo_sheet_77 rfl ?_
                  refine V.if_ne (tgt := 85) d_Mo_sheet_78 (by decide) (fun c_78 => ?_) (fun c_78 => ?_)
                  · skip
                    refine V.iload_n d_Mo_sheet_85 rfl ?_
                    refine V.msta 12 (by decide) (by decide) d_Mo_sheet_86 (by first | omega | (show _ < 4; omega)) ?_
                    refine V.iconst_ (nI 0) d_Mo_sheet_87 (by decide +kernel) ?_
                    refine V.istore d_Mo_sheet_88 (by decide) ?_
                    refine V.eqH (h' := mo q D (uA (uA (uA A 11 (upd (A 11) i y)) 12 (upd (A 12) i (z))) 13 (zsg (A 13) i 0)) S h0) (by rw [shA_0]) ?_
                    refine V.lc (ls' := [(0, .ref q), (1, .int (nI i)), (2, .int y), (3, .int z), (4, .int (nI 0))]) rfl ?_
                    refine up_to (G := fun k => V l M_Mo_sheet (d + 2) 0 0 90 [(0, .ref q), (1, .int (nI i)), (2, .int y), (3, .int z), (4, .int (nI k))] [] n (mo q D (uA (uA (uA A 11 (upd (A 11) i y)) 12 (upd (A 12) i (z))) 13 (zsg (A 13) i k)) S h0) 0 0 Q) (40) ?_ (fun k hk hn => ?_) 0 (by omega)
                    · skip
                      refine V.iload d_Mo_sheet_90 rfl ?_
                      refine V.bipush_ (nI 40) d_Mo_sheet_92 (by decide +kernel) ?_
                      refine V.geN (tgt := 116) d_Mo_sheet_94 (by decide) (by omega) (by omega) (fun c_94 => ?_) (fun c_94 => ?_)
                      · skip
                        refine V.iconst_ (nI 1) d_Mo_sheet_116 (by decide +kernel) ?_
                        refine V.iret d_Mo_sheet_117 rfl (Nat.le_of_ble_eq_true rfl) (Nat.le_of_ble_eq_true rfl) ?_
                        first
                        | exact absurd c_36 c_78
                        | exact absurd c_50 c_78
                        | exact absurd c_8 c_78
                        | (have hOk' := hOk i hi rfl (by first | exact Or.inl c_8 | exact Or.inr (Or.inl c_14) | exact Or.inr (Or.inr (Or.inl c_20)) | exact Or.inr (Or.inr (Or.inr c_26))) (fun z => ⟨c_40, c_56⟩)
                           rw [if_neg c_78] at hOk'
                           exact hOk')
                      · skip
                        exact absurd c_94 (by omega)
                    · skip
                      rw [← zsg_s] at hn
                      refine V.iload d_Mo_sheet_90 rfl ?_
                      refine V.bipush_ (nI 40) d_Mo_sheet_92 (by decide +kernel) ?_
                      refine V.geN (tgt := 116) d_Mo_sheet_94 (by decide) (by omega) (by omega) (fun c_94 => ?_) (fun c_94 => ?_)
                      · skip
                        exact absurd c_94 (by omega)
                      · skip
                        refine V.aload_n d_Mo_sheet_97 rfl ?_
                        refine V.get d_Mo_sheet_98 f_Mo_49_Mo mo_o rfl ?_
                        refine V.bipush_ (nI 40) d_Mo_sheet_101 (by decide +kernel) ?_
                        refine V.iload_n d_Mo_sheet_103 rfl ?_
                        refine V.mulN d_Mo_sheet_104 ?_
                        refine V.iload d_Mo_sheet_105 rfl ?_
                        refine V.addN d_Mo_sheet_107 ?_
                        refine V.iconst_ (nI 0) d_Mo_sheet_108 (by decide +kernel) ?_
                        refine V.msta 13 (by decide) (by decide) d_Mo_sheet_109 (by first | omega | (show _ < 160; omega)) ?_
                        refine V.incN d_Mo_sheet_110 rfl (by decide) ?_
                        refine V.goto (tgt := 90) d_Mo_sheet_113 (by decide) ?_
                        simp only [uA_uu, uA_s]
                        exact V.lc rfl hn
                  · skip
                    refine V.iconst_ (nI 0) d_Mo_sheet_81 (by decide +kernel) ?_
                    refine V.goto (tgt := 86) d_Mo_sheet_82 (by decide) ?_
                    refine V.msta 12 (by decide) (by decide) d_Mo_sheet_86 (by first | omega | (show _ < 4; omega)) ?_
                    refine V.iconst_ (nI 0) d_Mo_sheet_87 (by decide +kernel) ?_
                    refine V.istore d_Mo_sheet_88 (by decide) ?_
                    refine V.eqH (h' := mo q D (uA (uA (uA A 11 (upd (A 11) i y)) 12 (upd (A 12) i (nI 0))) 13 (zsg (A 13) i 0)) S h0) (by rw [shA_0]) ?_
                    refine V.lc (ls' := [(0, .ref q), (1, .int (nI i)), (2, .int y), (3, .int z), (4, .int (nI 0))]) rfl ?_
                    refine up_to (G := fun k => V l M_Mo_sheet (d + 2) 0 0 90 [(0, .ref q), (1, .int (nI i)), (2, .int y), (3, .int z), (4, .int (nI k))] [] n (mo q D (uA (uA (uA A 11 (upd (A 11) i y)) 12 (upd (A 12) i (nI 0))) 13 (zsg (A 13) i k)) S h0) 0 0 Q) (40) ?_ (fun k hk hn => ?_) 0 (by omega)
                    · skip
                      refine V.iload d_Mo_sheet_90 rfl ?_
                      refine V.bipush_ (nI 40) d_Mo_sheet_92 (by decide +kernel) ?_
                      refine V.geN (tgt := 116) d_Mo_sheet_94 (by decide) (by omega) (by omega) (fun c_94 => ?_) (fun c_94 => ?_)
                      · skip
                        refine V.iconst_ (nI 1) d_Mo_sheet_116 (by decide +kernel) ?_
                        refine V.iret d_Mo_sheet_117 rfl (Nat.le_of_ble_eq_true rfl) (Nat.le_of_ble_eq_true rfl) ?_
                        have hOk' := hOk i hi rfl (by first | exact Or.inl c_8 | exact Or.inr (Or.inl c_14) | exact Or.inr (Or.inr (Or.inl c_20)) | exact Or.inr (Or.inr (Or.inr c_26))) (fun z => absurd c_78 z)
                        rw [if_pos c_78] at hOk'
                        exact hOk'
                      · skip
                        exact absurd c_94 (by omega)
                    · skip
                      rw [← zsg_s] at hn
                      refine V.iload d_Mo_sheet_90 rfl ?_
                      refine V.bipush_ (nI 40) d_Mo_sheet_92 (by decide +kernel) ?_
                      refine V.geN (tgt := 116) d_Mo_sheet_94 (by decide) (by omega) (by omega) (fun c_94 => ?_) (fun c_94 => ?_)
                      · skip
                        exact absurd c_94 (by omega)
                      · skip
                        refine V.aload_n d_Mo_sheet_97 rfl ?_
                        refine V.get d_Mo_sheet_98 f_Mo_49_Mo mo_o rfl ?_
                        refine V.bipush_ (nI 40) d_Mo_sheet_101 (by decide +kernel) ?_
                        refine V.iload_n d_Mo_sheet_103 rfl ?_
                        refine V.mulN d_Mo_sheet_104 ?_
                        refine V.iload d_Mo_sheet_105 rfl ?_
                        refine V.addN d_Mo_sheet_107 ?_
                        refine V.iconst_ (nI 0) d_Mo_sheet_108 (by decide +kernel) ?_
                        refine V.msta 13 (by decide) (by decide) d_Mo_sheet_109 (by first | omega | (show _ < 160; omega)) ?_
                        refine V.incN d_Mo_sheet_110 rfl (by decide) ?_
                        refine V.goto (tgt := 90) d_Mo_sheet_113 (by decide) ?_
                        simp only [uA_uu, uA_s]
                        exact V.lc rfl hn
                · skip
                  refine V.aload_n d_Mo_sheet_59 rfl ?_
                  refine V.iconst_ (nI 1) d_Mo_sheet_60 (by decide +kernel) ?_
                  refine V.callV1 d_Mo_sheet_61 k_Mo_138_Mo_finds_MoV mo_o (Nat.le_of_ble_eq_true rfl) (by omega) (by omega) (c_Mo_finds (by omega) ?_)
                  refine V.iret d_Mo_sheet_64 rfl (Nat.le_of_ble_eq_true rfl) (Nat.le_of_ble_eq_true rfl) ?_
                  exact hB c_4 (by first | exact Or.inl c_8 | exact Or.inr (Or.inl c_14) | exact Or.inr (Or.inr (Or.inl c_20)) | exact Or.inr (Or.inr (Or.inr c_26))) c_50 (by first | exact c_40 | exact absurd c_36 c_50) c_56
            · skip
              refine V.iload_n d_Mo_sheet_39 rfl ?_
              refine V.if_ge (tgt := 49) d_Mo_sheet_40 (by decide) (fun c_40 => ?_) (fun c_40 => ?_)
              · skip
                refine V.iload_n d_Mo_sheet_49 rfl ?_
                refine V.if_eq (tgt := 65) d_Mo_sheet_50 (by decide) (fun c_50 => ?_) (fun c_50 => ?_)
                · skip
                  obtain ⟨i, hi, rfl⟩ := wi_nat (by decide) c_4
                  refine V.aload_n d_Mo_sheet_65 rfl ?_
                  refine V.get d_Mo_sheet_66 f_Mo_43_Mo mo_o rfl ?_
                  refine V.iload_n d_Mo_sheet_69 rfl ?_
                  refine V.iload_n d_Mo_sheet_70 rfl ?_
                  refine V.msta 11 (by decide) (by decide) d_Mo_sheet_71 (by first | omega | (show _ < 4; omega)) ?_
                  refine V.aload_n d_Mo_sheet_72 rfl ?_
                  refine V.get d_Mo_sheet_73 f_Mo_46_Mo mo_o rfl ?_
                  refine V.iload_n d_Mo_sheet_76 rfl ?_
                  refine V.iload_n d_Mo_sheet_77 rfl ?_
                  refine V.if_ne (tgt := 85) d_Mo_sheet_78 (by decide) (fun c_78 => ?_) (fun c_78 => ?_)
                  · skip
                    refine V.iload_n d_Mo_sheet_85 rfl ?_
                    refine V.msta 12 (by decide) (by decide) d_Mo_sheet_86 (by first | omega | (show _ < 4; omega)) ?_
                    refine V.iconst_ (nI 0) d_Mo_sheet_87 (by decide +kernel) ?_
                    refine V.istore d_Mo_sheet_88 (by decide) ?_
                    refine V.eqH (h' := mo q D (uA (uA (uA A 11 (upd (A 11) i y)) 12 (upd (A 12) i (z))) 13 (zsg (A 13) i 0)) S h0) (by rw [shA_0]) ?_
                    refine V.lc (ls' := [(0, .ref q), (1, .int (nI i)), (2, .int y), (3, .int z), (4, .int (nI 0))]) rfl ?_
                    refine up_to (G := fun k => V l M_Mo_sheet (d + 2) 0 0 90 [(0, .ref q), (1, .int (nI i)), (2, .int y), (3, .int z), (4, .int (nI k))] [] n (mo q D (uA (uA (uA A 11 (upd (A 11) i y)) 12 (upd (A 12) i (z))) 13 (zsg (A 13) i k)) S h0) 0 0 Q) (40) ?_ (fun k hk hn => ?_) 0 (by omega)
                    · skip
                      refine V.iload d_Mo_sheet_90 rfl ?_
                      refine V.bipush_ (nI 40) d_Mo_sheet_92 (by decide +kernel) ?_
                      refine V.geN (tgt := 116) d_Mo_sheet_94 (by decide) (by omega) (by omega) (fun c_94 => ?_) (fun c_94 => ?_)
                      · skip
                        refine V.iconst_ (nI 1) d_Mo_sheet_116 (by decide +kernel) ?_
                        refine V.iret d_Mo_sheet_117 rfl (Nat.le_of_ble_eq_true rfl) (Nat.le_of_ble_eq_true rfl) ?_
                        first
                        | exact absurd c_36 c_78
                        | exact absurd c_50 c_78
                        | exact absurd c_8 c_78
                        | (have hOk' := hOk i hi rfl (by first | exact Or.inl c_8 | exact Or.inr (Or.inl c_14) | exact Or.inr (Or.inr (Or.inl c_20)) | exact Or.inr (Or.inr (Or.inr c_26))) (fun z => ⟨c_40, c_56⟩)
                           rw [if_neg c_78] at hOk'
                           exact hOk')
                      · skip
                        exact absurd c_94 (by omega)
                    · skip
                      rw [← zsg_s] at hn
                      refine V.iload d_Mo_sheet_90 rfl ?_
                      refine V.bipush_ (nI 40) d_Mo_sheet_92 (by decide +kernel) ?_
                      refine V.geN (tgt := 116) d_Mo_sheet_94 (by decide) (by omega) (by omega) (fun c_94 => ?_) (fun c_94 => ?_)
                      · skip
                        exact absurd c_94 (by omega)
                      · skip
                        refine V.aload_n d_Mo_sheet_97 rfl ?_
                        refine V.get d_Mo_sheet_98 f_Mo_49_Mo mo_o rfl ?_
                        refine V.bipush_ (nI 40) d_Mo_sheet_101 (by decide +kernel) ?_
                        refine V.iload_n d_Mo_sheet_103 rfl ?_
                        refine V.mulN d_Mo_sheet_104 ?_
                        refine V.iload d_Mo_sheet_105 rfl ?_
                        refine V.addN d_Mo_sheet_107 ?_
                        refine V.iconst_ (nI 0) d_Mo_sheet_108 (by decide +kernel) ?_
                        refine V.msta 13 (by decide) (by decide) d_Mo_sheet_109 (by first | omega | (show _ < 160; omega)) ?_
                        refine V.incN d_Mo_sheet_110 rfl (by decide) ?_
                        refine V.goto (tgt := 90) d_Mo_sheet_113 (by decide) ?_
                        simp only [uA_uu, uA_s]
                        exact V.lc rfl hn
                  · skip
                    refine V.iconst_ (nI 0) d_Mo_sheet_81 (by decide +kernel) ?_
                    refine V.goto (tgt := 86) d_Mo_sheet_82 (by decide) ?_
                    refine V.msta 12 (by decide) (by decide) d_Mo_sheet_86 (by first | omega | (show _ < 4; omega)) ?_
                    refine V.iconst_ (nI 0) d_Mo_sheet_87 (by decide +kernel) ?_
                    refine V.istore d_Mo_sheet_88 (by decide) ?_
                    refine V.eqH (h' := mo q D (uA (uA (uA A 11 (upd (A 11) i y)) 12 (upd (A 12) i (nI 0))) 13 (zsg (A 13) i 0)) S h0) (by rw [shA_0]) ?_
                    refine V.lc (ls' := [(0, .ref q), (1, .int (nI i)), (2, .int y), (3, .int z), (4, .int (nI 0))]) rfl ?_
                    refine up_to (G := fun k => V l M_Mo_sheet (d + 2) 0 0 90 [(0, .ref q), (1, .int (nI i)), (2, .int y), (3, .int z), (4, .int (nI k))] [] n (mo q D (uA (uA (uA A 11 (upd (A 11) i y)) 12 (upd (A 12) i (nI 0))) 13 (zsg (A 13) i k)) S h0) 0 0 Q) (40) ?_ (fun k hk hn => ?_) 0 (by omega)
                    · skip
                      refine V.iload d_Mo_sheet_90 rfl ?_
                      refine V.bipush_ (nI 40) d_Mo_sheet_92 (by decide +kernel) ?_
                      refine V.geN (tgt := 116) d_Mo_sheet_94 (by decide) (by omega) (by omega) (fun c_94 => ?_) (fun c_94 => ?_)
                      · skip
                        refine V.iconst_ (nI 1) d_Mo_sheet_116 (by decide +kernel) ?_
                        refine V.iret d_Mo_sheet_117 rfl (Nat.le_of_ble_eq_true rfl) (Nat.le_of_ble_eq_true rfl) ?_
                        have hOk' := hOk i hi rfl (by first | exact Or.inl c_8 | exact Or.inr (Or.inl c_14) | exact Or.inr (Or.inr (Or.inl c_20)) | exact Or.inr (Or.inr (Or.inr c_26))) (fun z => absurd c_78 z)
                        rw [if_pos c_78] at hOk'
                        exact hOk'
                      · skip
                        exact absurd c_94 (by omega)
                    · skip
                      rw [← zsg_s] at hn
                      refine V.iload d_Mo_sheet_90 rfl ?_
                      refine V.bipush_ (nI 40) d_Mo_sheet_92 (by decide +kernel) ?_
                      refine V.geN (tgt := 116) d_Mo_sheet_94 (by decide) (by omega) (by omega) (fun c_94 => ?_) (fun c_94 => ?_)
                      · skip
                        exact absurd c_94 (by omega)
                      · skip
                        refine V.aload_n d_Mo_sheet_97 rfl ?_
                        refine V.get d_Mo_sheet_98 f_Mo_49_Mo mo_o rfl ?_
                        refine V.bipush_ (nI 40) d_Mo_sheet_101 (by decide +kernel) ?_
                        refine V.iload_n d_Mo_sheet_103 rfl ?_
                        refine V.mulN d_Mo_sheet_104 ?_
                        refine V.iload d_Mo_sheet_105 rfl ?_
                        refine V.addN d_Mo_sheet_107 ?_
                        refine V.iconst_ (nI 0) d_Mo_sheet_108 (by decide +kernel) ?_
                        refine V.msta 13 (by decide) (by decide) d_Mo_sheet_109 (by first | omega | (show _ < 160; omega)) ?_
                        refine V.incN d_Mo_sheet_110 rfl (by decide) ?_
                        refine V.goto (tgt := 90) d_Mo_sheet_113 (by decide) ?_
                        simp only [uA_uu, uA_s]
                        exact V.lc rfl hn
                · skip
                  refine V.iload_n d_Mo_sheet_53 rfl ?_
                  refine V.bipush_ (nI 40) d_Mo_sheet_54 (by decide +kernel) ?_
                  refine V.icmp_le (tgt := 65) d_Mo_sheet_56 (by decide) (fun c_56 => ?_) (fun c_56 => ?_)
                  · skip
                    obtain ⟨i, hi, rfl⟩ := wi_nat (by decide) c_4
                    refine V.aload_n d_Mo_sheet_65 rfl ?_
                    refine V.get d_Mo_sheet_66 f_Mo_43_Mo mo_o rfl ?_
                    refine V.iload_n d_Mo_sheet_69 rfl ?_
                    refine V.iload_n d_Mo_sheet_70 rfl ?_
                    refine V.msta 11 (by decide) (by decide) d_Mo_sheet_71 (by first | omega | (show _ < 4; omega)) ?_
                    refine V.aload_n d_Mo_sheet_72 rfl ?_
                    refine V.get d_Mo_sheet_73 f_Mo_46_Mo mo_o rfl ?_
                    refine V.iload_n d_Mo_sheet_76 rfl ?_
                    refine V.iload_n d_Mo_sheet_77 rfl ?_
                    refine V.if_ne (tgt := 85) d_Mo_sheet_78 (by decide) (fun c_78 => ?_) (fun c_78 => ?_)
                    · skip
                      refine V.iload_n d_Mo_sheet_85 rfl ?_
                      refine V.msta 12 (by decide) (by decide) d_Mo_sheet_86 (by first | omega | (show _ < 4; omega)) ?_
                      refine V.iconst_ (nI 0) d_Mo_sheet_87 (by decide +kernel) ?_
                      refine V.istore d_Mo_sheet_88 (by decide) ?_
                      refine V.eqH (h' := mo q D (uA (uA (uA A 11 (upd (A 11) i y)) 12 (upd (A 12) i (z))) 13 (zsg (A 13) i 0)) S h0) (by rw [shA_0]) ?_
                      refine V.lc (ls' := [(0, .ref q), (1, .int (nI i)), (2, .int y), (3, .int z), (4, .int (nI 0))]) rfl ?_
                      refine up_to (G := fun k => V l M_Mo_sheet (d + 2) 0 0 90 [(0, .ref q), (1, .int (nI i)), (2, .int y), (3, .int z), (4, .int (nI k))] [] n (mo q D (uA (uA (uA A 11 (upd (A 11) i y)) 12 (upd (A 12) i (z))) 13 (zsg (A 13) i k)) S h0) 0 0 Q) (40) ?_ (fun k hk hn => ?_) 0 (by omega)
                      · skip
                        refine V.iload d_Mo_sheet_90 rfl ?_
                        refine V.bipush_ (nI 40) d_Mo_sheet_92 (by decide +kernel) ?_
                        refine V.geN (tgt := 116) d_Mo_sheet_94 (by decide) (by omega) (by omega) (fun c_94 => ?_) (fun c_94 => ?_)
                        · skip
                          refine V.iconst_ (nI 1) d_Mo_sheet_116 (by decide +kernel) ?_
                          refine V.iret d_Mo_sheet_117 rfl (Nat.le_of_ble_eq_true rfl) (Nat.le_of_ble_eq_true rfl) ?_
                          first
                          | exact absurd c_36 c_78
                          | exact absurd c_50 c_78
                          | exact absurd c_8 c_78
                          | (have hOk' := hOk i hi rfl (by first | exact Or.inl c_8 | exact Or.inr (Or.inl c_14) | exact Or.inr (Or.inr (Or.inl c_20)) | exact Or.inr (Or.inr (Or.inr c_26))) (fun z => ⟨c_40, c_56⟩)
                             rw [if_neg c_78] at hOk'
                             exact hOk')
                        · skip
                          exact absurd c_94 (by omega)
                      · skip
                        rw [← zsg_s] at hn
                        refine V.iload d_Mo_sheet_90 rfl ?_
                        refine V.bipush_ (nI 40) d_Mo_sheet_92 (by decide +kernel) ?_
                        refine V.geN (tgt := 116) d_Mo_sheet_94 (by decide) (by omega) (by omega) (fun c_94 => ?_) (fun c_94 => ?_)
                        · skip
                          exact absurd c_94 (by omega)
                        · skip
                          refine V.aload_n d_Mo_sheet_97 rfl ?_
                          refine V.get d_Mo_sheet_98 f_Mo_49_Mo mo_o rfl ?_
                          refine V.bipush_ (nI 40) d_Mo_sheet_101 (by decide +kernel) ?_
                          refine V.iload_n d_Mo_sheet_103 rfl ?_
                          refine V.mulN d_Mo_sheet_104 ?_
                          refine V.iload d_Mo_sheet_105 rfl ?_
                          refine V.addN d_Mo_sheet_107 ?_
                          refine V.iconst_ (nI 0) d_Mo_sheet_108 (by decide +kernel) ?_
                          refine V.msta 13 (by decide) (by decide) d_Mo_sheet_109 (by first | omega | (show _ < 160; omega)) ?_
                          refine V.incN d_Mo_sheet_110 rfl (by decide) ?_
                          refine V.goto (tgt := 90) d_Mo_sheet_113 (by decide) ?_
                          simp only [uA_uu, uA_s]
                          exact V.lc rfl hn
                    · skip
                      refine V.iconst_ (nI 0) d_Mo_sheet_81 (by decide +kernel) ?_
                      refine V.goto (tgt := 86) d_Mo_sheet_82 (by decide) ?_
                      refine V.msta 12 (by decide) (by decide) d_Mo_sheet_86 (by first | omega | (show _ < 4; omega)) ?_
                      refine V.iconst_ (nI 0) d_Mo_sheet_87 (by decide +kernel) ?_
                      refine V.istore d_Mo_sheet_88 (by decide) ?_
                      refine V.eqH (h' := mo q D (uA (uA (uA A 11 (upd (A 11) i y)) 12 (upd (A 12) i (nI 0))) 13 (zsg (A 13) i 0)) S h0) (by rw [shA_0]) ?_
                      refine V.lc (ls' := [(0, .ref q), (1, .int (nI i)), (2, .int y), (3, .int z), (4, .int (nI 0))]) rfl ?_
                      refine up_to (G := fun k => V l M_Mo_sheet (d + 2) 0 0 90 [(0, .ref q), (1, .int (nI i)), (2, .int y), (3, .int z), (4, .int (nI k))] [] n (mo q D (uA (uA (uA A 11 (upd (A 11) i y)) 12 (upd (A 12) i (nI 0))) 13 (zsg (A 13) i k)) S h0) 0 0 Q) (40) ?_ (fun k hk hn => ?_) 0 (by omega)
                      · skip
                        refine V.iload d_Mo_sheet_90 rfl ?_
                        refine V.bipush_ (nI 40) d_Mo_sheet_92 (by decide +kernel) ?_
                        refine V.geN (tgt := 116) d_Mo_sheet_94 (by decide) (by omega) (by omega) (fun c_94 => ?_) (fun c_94 => ?_)
                        · skip
                          refine V.iconst_ (nI 1) d_Mo_sheet_116 (by decide +kernel) ?_
                          refine V.iret d_Mo_sheet_117 rfl (Nat.le_of_ble_eq_true rfl) (Nat.le_of_ble_eq_true rfl) ?_
                          have hOk' := hOk i hi rfl (by first | exact Or.inl c_8 | exact Or.inr (Or.inl c_14) | exact Or.inr (Or.inr (Or.inl c_20)) | exact Or.inr (Or.inr (Or.inr c_26))) (fun z => absurd c_78 z)
                          rw [if_pos c_78] at hOk'
                          exact hOk'
                        · skip
                          exact absurd c_94 (by omega)
                      · skip
                        rw [← zsg_s] at hn
                        refine V.iload d_Mo_sheet_90 rfl ?_
                        refine V.bipush_ (nI 40) d_Mo_sheet_92 (by decide +kernel) ?_
                        refine V.geN (tgt := 116) d_Mo_sheet_94 (by decide) (by omega) (by omega) (fun c_94 => ?_) (fun c_94 => ?_)
                        · skip
                          exact absurd c_94 (by omega)
                        · skip
                          refine V.aload_n d_Mo_sheet_97 rfl ?_
                          refine V.get d_Mo_sheet_98 f_Mo_49_Mo mo_o rfl ?_
                          refine V.bipush_ (nI 40) d_Mo_sheet_101 (by decide +kernel) ?_
                          refine V.iload_n d_Mo_sheet_103 rfl ?_
                          refine V.mulN d_Mo_sheet_104 ?_
                          refine V.iload d_Mo_sheet_105 rfl ?_
                          refine V.addN d_Mo_sheet_107 ?_
                          refine V.iconst_ (nI 0) d_Mo_sheet_108 (by decide +kernel) ?_
                          refine V.msta 13 (by decide) (by decide) d_Mo_sheet_109 (by first | omega | (show _ < 160; omega)) ?_
                          refine V.incN d_Mo_sheet_110 rfl (by decide) ?_
                          refine V.goto (tgt := 90) d_Mo_sheet_113 (by decide) ?_
                          simp only [uA_uu, uA_s]
                          exact V.lc rfl hn
                  · skip
                    refine V.aload_n d_Mo_sheet_59 rfl ?_
                    refine V.iconst_ (nI 1) d_Mo_sheet_60 (by decide +kernel) ?_
                    refine V.callV1 d_Mo_sheet_61 k_Mo_138_Mo_finds_MoV mo_o (Nat.le_of_ble_eq_true rfl) (by omega) (by omega) (c_Mo_finds (by omega) ?_)
                    refine V.iret d_Mo_sheet_64 rfl (Nat.le_of_ble_eq_true rfl) (Nat.le_of_ble_eq_true rfl) ?_
                    exact hB c_4 (by first | exact Or.inl c_8 | exact Or.inr (Or.inl c_14) | exact Or.inr (Or.inr (Or.inl c_20)) | exact Or.inr (Or.inr (Or.inr c_26))) c_50 (by first | exact c_40 | exact absurd c_36 c_50) c_56
              · skip
                refine V.aload_n d_Mo_sheet_43 rfl ?_
                refine V.iconst_ (nI 3) d_Mo_sheet_44 (by decide +kernel) ?_
                refine V.callV1 d_Mo_sheet_45 k_Mo_138_Mo_finds_MoV mo_o (Nat.le_of_ble_eq_true rfl) (by omega) (by omega) (c_Mo_finds (by omega) ?_)
                refine V.iret d_Mo_sheet_48 rfl (Nat.le_of_ble_eq_true rfl) (Nat.le_of_ble_eq_true rfl) ?_
                exact hS c_4 (by first | exact Or.inl c_8 | exact Or.inr (Or.inl c_14) | exact Or.inr (Or.inr (Or.inl c_20)) | exact Or.inr (Or.inr (Or.inr c_26))) c_36 (Int32.not_le.mp c_40)
          · skip
            refine V.aload_n d_Mo_sheet_29 rfl ?_
            refine V.iconst_ (nI 1) d_Mo_sheet_30 (by decide +kernel) ?_
            refine V.callV1 d_Mo_sheet_31 k_Mo_138_Mo_finds_MoV mo_o (Nat.le_of_ble_eq_true rfl) (by omega) (by omega) (c_Mo_finds (by omega) ?_)
            refine V.iret d_Mo_sheet_34 rfl (Nat.le_of_ble_eq_true rfl) (Nat.le_of_ble_eq_true rfl) ?_
            exact hE (by first | exact Or.inl c_4 | exact Or.inr (fun z => z.elim c_8 (fun z => z.elim c_14 (fun z => z.elim c_20 c_26))))
def low (b v : Int32) : Int32 := if b = nI 8 then v.toInt8.toInt32 else if b = nI 16 then v.toInt16.toInt32 else v
abbrev M_Mo_put : MD := (⟨"FelledByNamesModel", "put", "(III)I"⟩, prog_14_method_80_code, 4, (some .int), fun _ => True)
theorem d_Mo_put_0 : decode prog_14_method_80_code 0 = .ok (.iload_n 1, 1) := by decide +kernel
theorem d_Mo_put_1 : decode prog_14_method_80_code 1 = .ok (.invokestatic 245, 3) := by decide +kernel
theorem d_Mo_put_4 : decode prog_14_method_80_code 4 = .ok (.ifCond .ne 9, 3) := by decide +kernel
theorem d_Mo_put_13 : decode prog_14_method_80_code 13 = .ok (.aload_n 0, 1) := by decide +kernel
theorem d_Mo_put_14 : decode prog_14_method_80_code 14 = .ok (.getfield 43, 3) := by decide +kernel
theorem d_Mo_put_17 : decode prog_14_method_80_code 17 = .ok (.iload_n 1, 1) := by decide +kernel
theorem d_Mo_put_18 : decode prog_14_method_80_code 18 = .ok (.iaload, 1) := by decide +kernel
theorem d_Mo_put_19 : decode prog_14_method_80_code 19 = .ok (.ifCond .ne 9, 3) := by decide +kernel
theorem d_Mo_put_28 : decode prog_14_method_80_code 28 = .ok (.iload_n 2, 1) := by decide +kernel
theorem d_Mo_put_29 : decode prog_14_method_80_code 29 = .ok (.i2l, 1) := by decide +kernel
theorem d_Mo_put_30 : decode prog_14_method_80_code 30 = .ok (.lconst 0, 1) := by decide +kernel
theorem d_Mo_put_31 : decode prog_14_method_80_code 31 = .ok (.aload_n 0, 1) := by decide +kernel
theorem d_Mo_put_32 : decode prog_14_method_80_code 32 = .ok (.getfield 46, 3) := by decide +kernel
theorem d_Mo_put_35 : decode prog_14_method_80_code 35 = .ok (.iload_n 1, 1) := by decide +kernel
theorem d_Mo_put_36 : decode prog_14_method_80_code 36 = .ok (.iaload, 1) := by decide +kernel
theorem d_Mo_put_37 : decode prog_14_method_80_code 37 = .ok (.iconst 1, 1) := by decide +kernel
theorem d_Mo_put_38 : decode prog_14_method_80_code 38 = .ok (.isub, 1) := by decide +kernel
theorem d_Mo_put_39 : decode prog_14_method_80_code 39 = .ok (.i2l, 1) := by decide +kernel
theorem d_Mo_put_40 : decode prog_14_method_80_code 40 = .ok (.invokestatic 56, 3) := by decide +kernel
theorem d_Mo_put_43 : decode prog_14_method_80_code 43 = .ok (.ifCond .ne 9, 3) := by decide +kernel
theorem d_Mo_put_52 : decode prog_14_method_80_code 52 = .ok (.aload_n 0, 1) := by decide +kernel
theorem d_Mo_put_53 : decode prog_14_method_80_code 53 = .ok (.getfield 49, 3) := by decide +kernel
theorem d_Mo_put_56 : decode prog_14_method_80_code 56 = .ok (.bipush 40, 2) := by decide +kernel
theorem d_Mo_put_58 : decode prog_14_method_80_code 58 = .ok (.iload_n 1, 1) := by decide +kernel
theorem d_Mo_put_59 : decode prog_14_method_80_code 59 = .ok (.imul, 1) := by decide +kernel
theorem d_Mo_put_60 : decode prog_14_method_80_code 60 = .ok (.iload_n 2, 1) := by decide +kernel
theorem d_Mo_put_61 : decode prog_14_method_80_code 61 = .ok (.iadd, 1) := by decide +kernel
theorem d_Mo_put_62 : decode prog_14_method_80_code 62 = .ok (.aload_n 0, 1) := by decide +kernel
theorem d_Mo_put_63 : decode prog_14_method_80_code 63 = .ok (.getfield 43, 3) := by decide +kernel
theorem d_Mo_put_66 : decode prog_14_method_80_code 66 = .ok (.iload_n 1, 1) := by decide +kernel
theorem d_Mo_put_67 : decode prog_14_method_80_code 67 = .ok (.iaload, 1) := by decide +kernel
theorem d_Mo_put_68 : decode prog_14_method_80_code 68 = .ok (.bipush 8, 2) := by decide +kernel
theorem d_Mo_put_70 : decode prog_14_method_80_code 70 = .ok (.if_icmp .ne 8, 3) := by decide +kernel
theorem d_Mo_put_78 : decode prog_14_method_80_code 78 = .ok (.aload_n 0, 1) := by decide +kernel
theorem d_Mo_put_79 : decode prog_14_method_80_code 79 = .ok (.getfield 43, 3) := by decide +kernel
theorem d_Mo_put_82 : decode prog_14_method_80_code 82 = .ok (.iload_n 1, 1) := by decide +kernel
theorem d_Mo_put_83 : decode prog_14_method_80_code 83 = .ok (.iaload, 1) := by decide +kernel
theorem d_Mo_put_84 : decode prog_14_method_80_code 84 = .ok (.bipush 16, 2) := by decide +kernel
theorem d_Mo_put_86 : decode prog_14_method_80_code 86 = .ok (.if_icmp .ne 8, 3) := by decide +kernel
theorem d_Mo_put_94 : decode prog_14_method_80_code 94 = .ok (.iload_n 3, 1) := by decide +kernel
theorem d_Mo_put_95 : decode prog_14_method_80_code 95 = .ok (.iastore, 1) := by decide +kernel
theorem d_Mo_put_96 : decode prog_14_method_80_code 96 = .ok (.iconst 1, 1) := by decide +kernel
theorem d_Mo_put_97 : decode prog_14_method_80_code 97 = .ok (.ireturn, 1) := by decide +kernel
theorem d_Mo_put_89 : decode prog_14_method_80_code 89 = .ok (.iload_n 3, 1) := by decide +kernel
theorem d_Mo_put_90 : decode prog_14_method_80_code 90 = .ok (.i2s, 1) := by decide +kernel
theorem d_Mo_put_91 : decode prog_14_method_80_code 91 = .ok (.goto 4, 3) := by decide +kernel
theorem d_Mo_put_73 : decode prog_14_method_80_code 73 = .ok (.iload_n 3, 1) := by decide +kernel
theorem d_Mo_put_74 : decode prog_14_method_80_code 74 = .ok (.i2b, 1) := by decide +kernel
theorem d_Mo_put_75 : decode prog_14_method_80_code 75 = .ok (.goto 20, 3) := by decide +kernel
theorem d_Mo_put_46 : decode prog_14_method_80_code 46 = .ok (.aload_n 0, 1) := by decide +kernel
theorem d_Mo_put_47 : decode prog_14_method_80_code 47 = .ok (.iconst 1, 1) := by decide +kernel
theorem d_Mo_put_48 : decode prog_14_method_80_code 48 = .ok (.invokevirtual 138, 3) := by decide +kernel
theorem d_Mo_put_51 : decode prog_14_method_80_code 51 = .ok (.ireturn, 1) := by decide +kernel
theorem d_Mo_put_22 : decode prog_14_method_80_code 22 = .ok (.aload_n 0, 1) := by decide +kernel
theorem d_Mo_put_23 : decode prog_14_method_80_code 23 = .ok (.iconst 2, 1) := by decide +kernel
theorem d_Mo_put_24 : decode prog_14_method_80_code 24 = .ok (.invokevirtual 138, 3) := by decide +kernel
theorem d_Mo_put_27 : decode prog_14_method_80_code 27 = .ok (.ireturn, 1) := by decide +kernel
theorem d_Mo_put_7 : decode prog_14_method_80_code 7 = .ok (.aload_n 0, 1) := by decide +kernel
theorem d_Mo_put_8 : decode prog_14_method_80_code 8 = .ok (.iconst 1, 1) := by decide +kernel
theorem d_Mo_put_9 : decode prog_14_method_80_code 9 = .ok (.invokevirtual 138, 3) := by decide +kernel
theorem d_Mo_put_12 : decode prog_14_method_80_code 12 = .ok (.ireturn, 1) := by decide +kernel
set_option maxRecDepth 100000 in
theorem c_Mo_put {x y v : Int32} {l : Launch} {d q n : Nat} {D : Nat → Int32} {A : Nat → Nat → Int32} {S : Nat → Int32} {h0 : HP} {Q : QT} (hSz : ∀ i, i < 4 → NB (A 12) i 40) (hE : wi x (nI 0) (nI 3) = false → Q (some (.int (-1000000000 - nI 1))) n (mo q D (uA A 3 (upd (A 3) 1 (A 3 1 + nI 1))) S h0)) (hN : ∀ i, i ≤ 3 → x = nI i → A 11 i = 0 → Q (some (.int (-1000000000 - nI 2))) n (mo q D (uA A 3 (upd (A 3) 2 (A 3 2 + nI 1))) S h0)) (hB : ∀ i sz, i ≤ 3 → x = nI i → ¬ A 11 i = 0 → A 12 i = nI sz → sz ≤ 40 → wi y (nI 0) (nI sz - nI 1) = false → Q (some (.int (-1000000000 - nI 1))) n (mo q D (uA A 3 (upd (A 3) 1 (A 3 1 + nI 1))) S h0)) (hOk : ∀ i sz j, i ≤ 3 → x = nI i → ¬ A 11 i = 0 → A 12 i = nI sz → sz ≤ 40 → j < sz → y = nI j → Q (some (.int (nI 1))) n (mo q D (uA A 13 (upd (A 13) (40 * i + j) (low (A 11 i) v))) S h0)) : Ct l M_Mo_put (d + 2) 0 0 [.ref q, .int x, .int y, .int v] n (mo q D A S h0) Q := by
  refine Ct.of (fun _ => trivial) (by decide) (Nat.le_of_ble_eq_true rfl) ?_
  refine V.iload_n d_Mo_put_0 rfl ?_
  refine V.callS1 d_Mo_put_1 k_Mo_245_Mo_isSheetS (Nat.le_of_ble_eq_true rfl) (by omega) (by omega) (c_Mo_isSheet ?_)
  refine V.ifneB (tgt := 13) d_Mo_put_4 (by decide) (fun c_4 => ?_) (fun c_4 => ?_)
  · skip
    obtain ⟨i, hi, rfl⟩ := wi_nat (by decide) c_4
    obtain ⟨sz, hsz, esz⟩ := hSz i (by omega)
    refine V.aload_n d_Mo_put_13 rfl ?_
    refine V.get d_Mo_put_14 f_Mo_43_Mo mo_o rfl ?_
    refine V.iload_n d_Mo_put_17 rfl ?_
    refine V.mlda 11 (by decide) (by decide) d_Mo_put_18 (by first | omega | (show _ < 4; omega)) ?_
    refine V.if_ne (tgt := 28) d_Mo_put_19 (by decide) (fun c_19 => ?_) (fun c_19 => ?_)
    · skip
      refine V.iload_n d_Mo_put_28 rfl ?_
      refine V.i2l d_Mo_put_29 ?_
      refine V.lconst_ ((nI 0).toInt64) d_Mo_put_30 (by decide +kernel) ?_
      refine V.aload_n d_Mo_put_31 rfl ?_
      refine V.get d_Mo_put_32 f_Mo_46_Mo mo_o rfl ?_
      refine V.iload_n d_Mo_put_35 rfl ?_
      refine V.mlda 12 (by decide) (by decide) d_Mo_put_36 (by first | omega | (show _ < 4; omega)) ?_
      refine V.top esz ?_
      refine V.iconst_ (nI 1) d_Mo_put_37 (by decide +kernel) ?_
      refine V.isub d_Mo_put_38 ?_
      refine V.i2l d_Mo_put_39 ?_
      refine V.callS3 d_Mo_put_40 k_Mo_56_Mo_inS (Nat.le_of_ble_eq_true rfl) (by omega) (by omega) (c_Mo_in ?_)
      refine V.ifneB (tgt := 52) d_Mo_put_43 (by decide) (fun c_43 => ?_) (fun c_43 => ?_)
      · skip
        obtain ⟨j, hj, rfl⟩ := idx_nat (by omega) c_43
        refine V.aload_n d_Mo_put_52 rfl ?_
        refine V.get d_Mo_put_53 f_Mo_49_Mo mo_o rfl ?_
        refine V.bipush_ (nI 40) d_Mo_put_56 (by decide +kernel) ?_
        refine V.iload_n d_Mo_put_58 rfl ?_
        refine V.mulN d_Mo_put_59 ?_
        refine V.iload_n d_Mo_put_60 rfl ?_
        refine V.addN d_Mo_put_61 ?_
        refine V.aload_n d_Mo_put_62 rfl ?_
        refine V.get d_Mo_put_63 f_Mo_43_Mo mo_o rfl ?_
        refine V.iload_n d_Mo_put_66 rfl ?_
        refine V.mlda 11 (by decide) (by decide) d_Mo_put_67 (by first | omega | (show _ < 4; omega)) ?_
        refine V.bipush_ (nI 8) d_Mo_put_68 (by decide +kernel) ?_
        refine V.icmp_ne (tgt := 78) d_Mo_put_70 (by decide) (fun c_70 => ?_) (fun c_70 => ?_)
        · skip
          refine V.aload_n d_Mo_put_78 rfl ?_
          refine V.get d_Mo_put_79 f_Mo_43_Mo mo_o rfl ?_
          refine V.iload_n d_Mo_put_82 rfl ?_
          refine V.mlda 11 (by decide) (by decide) d_Mo_put_83 (by first | omega | (show _ < 4; omega)) ?_
          refine V.bipush_ (nI 16) d_Mo_put_84 (by decide +kernel) ?_
          refine V.icmp_ne (tgt := 94) d_Mo_put_86 (by decide) (fun c_86 => ?_) (fun c_86 => ?_)
          · skip
            refine V.iload_n d_Mo_put_94 rfl ?_
            refine V.msta 13 (by decide) (by decide) d_Mo_put_95 (by first | omega | (show _ < 160; omega)) ?_
            refine V.iconst_ (nI 1) d_Mo_put_96 (by decide +kernel) ?_
            refine V.iret d_Mo_put_97 rfl (Nat.le_of_ble_eq_true rfl) (Nat.le_of_ble_eq_true rfl) ?_
            have hOk' := hOk i sz j hi rfl c_19 esz hsz hj rfl
            unfold low at hOk'
            first | (rw [if_pos c_70] at hOk'; exact hOk') | (rw [if_neg c_70, if_pos c_86] at hOk'; exact hOk') | (rw [if_neg c_70, if_neg c_86] at hOk'; exact hOk')
          · skip
            refine V.iload_n d_Mo_put_89 rfl ?_
            refine V.i2s d_Mo_put_90 ?_
            refine V.goto (tgt := 95) d_Mo_put_91 (by decide) ?_
            refine V.msta 13 (by decide) (by decide) d_Mo_put_95 (by first | omega | (show _ < 160; omega)) ?_
            refine V.iconst_ (nI 1) d_Mo_put_96 (by decide +kernel) ?_
            refine V.iret d_Mo_put_97 rfl (Nat.le_of_ble_eq_true rfl) (Nat.le_of_ble_eq_true rfl) ?_
            have hOk' := hOk i sz j hi rfl c_19 esz hsz hj rfl
            unfold low at hOk'
            first | (rw [if_pos c_70] at hOk'; exact hOk') | (rw [if_neg c_70, if_pos c_86] at hOk'; exact hOk') | (rw [if_neg c_70, if_neg c_86] at hOk'; exact hOk')
        · skip
          refine V.iload_n d_Mo_put_73 rfl ?_
          refine V.i2b d_Mo_put_74 ?_
          refine V.goto (tgt := 95) d_Mo_put_75 (by decide) ?_
          refine V.msta 13 (by decide) (by decide) d_Mo_put_95 (by first | omega | (show _ < 160; omega)) ?_
          refine V.iconst_ (nI 1) d_Mo_put_96 (by decide +kernel) ?_
          refine V.iret d_Mo_put_97 rfl (Nat.le_of_ble_eq_true rfl) (Nat.le_of_ble_eq_true rfl) ?_
          have hOk' := hOk i sz j hi rfl c_19 esz hsz hj rfl
          unfold low at hOk'
          first | (rw [if_pos c_70] at hOk'; exact hOk') | (rw [if_neg c_70, if_pos c_86] at hOk'; exact hOk') | (rw [if_neg c_70, if_neg c_86] at hOk'; exact hOk')
      · skip
        refine V.aload_n d_Mo_put_46 rfl ?_
        refine V.iconst_ (nI 1) d_Mo_put_47 (by decide +kernel) ?_
        refine V.callV1 d_Mo_put_48 k_Mo_138_Mo_finds_MoV mo_o (Nat.le_of_ble_eq_true rfl) (by omega) (by omega) (c_Mo_finds (by omega) ?_)
        refine V.iret d_Mo_put_51 rfl (Nat.le_of_ble_eq_true rfl) (Nat.le_of_ble_eq_true rfl) ?_
        exact hB i sz hi rfl c_19 esz hsz c_43
    · skip
      refine V.aload_n d_Mo_put_22 rfl ?_
      refine V.iconst_ (nI 2) d_Mo_put_23 (by decide +kernel) ?_
      refine V.callV1 d_Mo_put_24 k_Mo_138_Mo_finds_MoV mo_o (Nat.le_of_ble_eq_true rfl) (by omega) (by omega) (c_Mo_finds (by omega) ?_)
      refine V.iret d_Mo_put_27 rfl (Nat.le_of_ble_eq_true rfl) (Nat.le_of_ble_eq_true rfl) ?_
      exact hN i hi rfl c_19
  · skip
    refine V.aload_n d_Mo_put_7 rfl ?_
    refine V.iconst_ (nI 1) d_Mo_put_8 (by decide +kernel) ?_
    refine V.callV1 d_Mo_put_9 k_Mo_138_Mo_finds_MoV mo_o (Nat.le_of_ble_eq_true rfl) (by omega) (by omega) (c_Mo_finds (by omega) ?_)
    refine V.iret d_Mo_put_12 rfl (Nat.le_of_ble_eq_true rfl) (Nat.le_of_ble_eq_true rfl) ?_
    exact hE c_4
theorem NB.c {f : Nat → Int32} {j b : Nat} (h : NB f j b) : ∃ k, k ≤ b ∧ f j = nI k := h
def tkD (D : Nat → Int32) (g : Nat → Int32) : Nat → Nat → Int32 := fun k => itr (fun k E => upd E (44 + k) (g k)) k D
abbrev M_Mo_talks : MD := (⟨"FelledByNamesModel", "talks", "(I)I"⟩, prog_14_method_82_code, 3, (some .int), fun _ => True)
theorem d_Mo_talks_0 : decode prog_14_method_82_code 0 = .ok (.iload_n 1, 1) := by decide +kernel
theorem d_Mo_talks_1 : decode prog_14_method_82_code 1 = .ok (.invokestatic 245, 3) := by decide +kernel
theorem d_Mo_talks_4 : decode prog_14_method_82_code 4 = .ok (.ifCond .ne 9, 3) := by decide +kernel
theorem d_Mo_talks_13 : decode prog_14_method_82_code 13 = .ok (.aload_n 0, 1) := by decide +kernel
theorem d_Mo_talks_14 : decode prog_14_method_82_code 14 = .ok (.getfield 43, 3) := by decide +kernel
theorem d_Mo_talks_17 : decode prog_14_method_82_code 17 = .ok (.iload_n 1, 1) := by decide +kernel
theorem d_Mo_talks_18 : decode prog_14_method_82_code 18 = .ok (.iaload, 1) := by decide +kernel
theorem d_Mo_talks_19 : decode prog_14_method_82_code 19 = .ok (.ifCond .ne 9, 3) := by decide +kernel
theorem d_Mo_talks_28 : decode prog_14_method_82_code 28 = .ok (.iconst 0, 1) := by decide +kernel
theorem d_Mo_talks_29 : decode prog_14_method_82_code 29 = .ok (.istore_n 2, 1) := by decide +kernel
theorem d_Mo_talks_30 : decode prog_14_method_82_code 30 = .ok (.iload_n 2, 1) := by decide +kernel
theorem d_Mo_talks_31 : decode prog_14_method_82_code 31 = .ok (.aload_n 0, 1) := by decide +kernel
theorem d_Mo_talks_32 : decode prog_14_method_82_code 32 = .ok (.getfield 46, 3) := by decide +kernel
theorem d_Mo_talks_35 : decode prog_14_method_82_code 35 = .ok (.iload_n 1, 1) := by decide +kernel
theorem d_Mo_talks_36 : decode prog_14_method_82_code 36 = .ok (.iaload, 1) := by decide +kernel
theorem d_Mo_talks_37 : decode prog_14_method_82_code 37 = .ok (.if_icmp .ge 57, 3) := by decide +kernel
theorem d_Mo_talks_94 : decode prog_14_method_82_code 94 = .ok (.iload_n 2, 1) := by decide +kernel
theorem d_Mo_talks_95 : decode prog_14_method_82_code 95 = .ok (.ireturn, 1) := by decide +kernel
theorem d_Mo_talks_40 : decode prog_14_method_82_code 40 = .ok (.iload_n 2, 1) := by decide +kernel
theorem d_Mo_talks_41 : decode prog_14_method_82_code 41 = .ok (.bipush 6, 2) := by decide +kernel
theorem d_Mo_talks_43 : decode prog_14_method_82_code 43 = .ok (.if_icmp .ge 51, 3) := by decide +kernel
theorem d_Mo_talks_46 : decode prog_14_method_82_code 46 = .ok (.aload_n 0, 1) := by decide +kernel
theorem d_Mo_talks_47 : decode prog_14_method_82_code 47 = .ok (.getfield 49, 3) := by decide +kernel
theorem d_Mo_talks_50 : decode prog_14_method_82_code 50 = .ok (.bipush 40, 2) := by decide +kernel
theorem d_Mo_talks_52 : decode prog_14_method_82_code 52 = .ok (.iload_n 1, 1) := by decide +kernel
theorem d_Mo_talks_53 : decode prog_14_method_82_code 53 = .ok (.imul, 1) := by decide +kernel
theorem d_Mo_talks_54 : decode prog_14_method_82_code 54 = .ok (.iload_n 2, 1) := by decide +kernel
theorem d_Mo_talks_55 : decode prog_14_method_82_code 55 = .ok (.iadd, 1) := by decide +kernel
theorem d_Mo_talks_56 : decode prog_14_method_82_code 56 = .ok (.iaload, 1) := by decide +kernel
theorem d_Mo_talks_57 : decode prog_14_method_82_code 57 = .ok (.i2l, 1) := by decide +kernel
theorem d_Mo_talks_58 : decode prog_14_method_82_code 58 = .ok (.lconst 0, 1) := by decide +kernel
theorem d_Mo_talks_59 : decode prog_14_method_82_code 59 = .ok (.ldc2_w 195, 3) := by decide +kernel
theorem d_Mo_talks_62 : decode prog_14_method_82_code 62 = .ok (.invokestatic 56, 3) := by decide +kernel
theorem d_Mo_talks_65 : decode prog_14_method_82_code 65 = .ok (.ifCond .eq 29, 3) := by decide +kernel
theorem d_Mo_talks_68 : decode prog_14_method_82_code 68 = .ok (.aload_n 0, 1) := by decide +kernel
theorem d_Mo_talks_69 : decode prog_14_method_82_code 69 = .ok (.getfield 7, 3) := by decide +kernel
theorem d_Mo_talks_72 : decode prog_14_method_82_code 72 = .ok (.bipush 44, 2) := by decide +kernel
theorem d_Mo_talks_74 : decode prog_14_method_82_code 74 = .ok (.iload_n 2, 1) := by decide +kernel
theorem d_Mo_talks_75 : decode prog_14_method_82_code 75 = .ok (.iadd, 1) := by decide +kernel
theorem d_Mo_talks_76 : decode prog_14_method_82_code 76 = .ok (.aload_n 0, 1) := by decide +kernel
theorem d_Mo_talks_77 : decode prog_14_method_82_code 77 = .ok (.getfield 49, 3) := by decide +kernel
theorem d_Mo_talks_80 : decode prog_14_method_82_code 80 = .ok (.bipush 40, 2) := by decide +kernel
theorem d_Mo_talks_82 : decode prog_14_method_82_code 82 = .ok (.iload_n 1, 1) := by decide +kernel
theorem d_Mo_talks_83 : decode prog_14_method_82_code 83 = .ok (.imul, 1) := by decide +kernel
theorem d_Mo_talks_84 : decode prog_14_method_82_code 84 = .ok (.iload_n 2, 1) := by decide +kernel
theorem d_Mo_talks_85 : decode prog_14_method_82_code 85 = .ok (.iadd, 1) := by decide +kernel
theorem d_Mo_talks_86 : decode prog_14_method_82_code 86 = .ok (.iaload, 1) := by decide +kernel
theorem d_Mo_talks_87 : decode prog_14_method_82_code 87 = .ok (.iastore, 1) := by decide +kernel
theorem d_Mo_talks_88 : decode prog_14_method_82_code 88 = .ok (.iinc 2 1, 3) := by decide +kernel
theorem d_Mo_talks_91 : decode prog_14_method_82_code 91 = .ok (.goto (-61), 3) := by decide +kernel
theorem d_Mo_talks_22 : decode prog_14_method_82_code 22 = .ok (.aload_n 0, 1) := by decide +kernel
theorem d_Mo_talks_23 : decode prog_14_method_82_code 23 = .ok (.iconst 2, 1) := by decide +kernel
theorem d_Mo_talks_24 : decode prog_14_method_82_code 24 = .ok (.invokevirtual 138, 3) := by decide +kernel
theorem d_Mo_talks_27 : decode prog_14_method_82_code 27 = .ok (.ireturn, 1) := by decide +kernel
theorem d_Mo_talks_7 : decode prog_14_method_82_code 7 = .ok (.aload_n 0, 1) := by decide +kernel
theorem d_Mo_talks_8 : decode prog_14_method_82_code 8 = .ok (.iconst 1, 1) := by decide +kernel
theorem d_Mo_talks_9 : decode prog_14_method_82_code 9 = .ok (.invokevirtual 138, 3) := by decide +kernel
theorem d_Mo_talks_12 : decode prog_14_method_82_code 12 = .ok (.ireturn, 1) := by decide +kernel
set_option maxRecDepth 100000 in
theorem c_Mo_talks {x : Int32} {l : Launch} {d q n : Nat} {D : Nat → Int32} {A : Nat → Nat → Int32} {S : Nat → Int32} {h0 : HP} {Q : QT} (hSz : ∀ i, i < 4 → NB (A 12) i 40) (hE : wi x (nI 0) (nI 3) = false → Q (some (.int (-1000000000 - nI 1))) n (mo q D (uA A 3 (upd (A 3) 1 (A 3 1 + nI 1))) S h0)) (hN : ∀ i, i ≤ 3 → x = nI i → A 11 i = 0 → Q (some (.int (-1000000000 - nI 2))) n (mo q D (uA A 3 (upd (A 3) 2 (A 3 2 + nI 1))) S h0)) (hOk : ∀ i sz k, i ≤ 3 → x = nI i → ¬ A 11 i = 0 → A 12 i = nI sz → sz ≤ 40 → k ≤ sz → k ≤ 6 → (∀ u, u < k → wi (A 13 (40 * i + u)) (nI 0) (nI 9) = true) → (k = sz ∨ k = 6 ∨ (k < sz ∧ k < 6 ∧ wi (A 13 (40 * i + k)) (nI 0) (nI 9) = false)) → Q (some (.int (nI k))) n (mo q (tkD D (fun u => A 13 (40 * i + u)) k) A S h0)) : Ct l M_Mo_talks (d + 2) 0 0 [.ref q, .int x] n (mo q D A S h0) Q := by
  refine Ct.of (fun _ => trivial) (by decide) (Nat.le_of_ble_eq_true rfl) ?_
  refine V.iload_n d_Mo_talks_0 rfl ?_
  refine V.callS1 d_Mo_talks_1 k_Mo_245_Mo_isSheetS (Nat.le_of_ble_eq_true rfl) (by omega) (by omega) (c_Mo_isSheet ?_)
  refine V.ifneB (tgt := 13) d_Mo_talks_4 (by decide) (fun c_4 => ?_) (fun c_4 => ?_)
  · skip
    obtain ⟨i, hi, rfl⟩ := wi_nat (by decide) c_4
    obtain ⟨sz, hsz, esz⟩ := hSz i (by omega)
    refine V.aload_n d_Mo_talks_13 rfl ?_
    refine V.get d_Mo_talks_14 f_Mo_43_Mo mo_o rfl ?_
    refine V.iload_n d_Mo_talks_17 rfl ?_
    refine V.mlda 11 (by decide) (by decide) d_Mo_talks_18 (by first | omega | (show _ < 4; omega)) ?_
    refine V.if_ne (tgt := 28) d_Mo_talks_19 (by decide) (fun c_19 => ?_) (fun c_19 => ?_)
    · skip
      refine V.iconst_ (nI 0) d_Mo_talks_28 (by decide +kernel) ?_
      refine V.istore_n d_Mo_talks_29 (by decide) ?_
      refine V.lc (ls' := [(0, .ref q), (1, .int (nI i)), (2, .int (nI 0))]) rfl ?_
      refine up_to (G := fun k => k ≤ 6 → (∀ u, u < k → wi (A 13 (40 * i + u)) (nI 0) (nI 9) = true) → V l M_Mo_talks (d + 2) 0 0 30 [(0, .ref q), (1, .int (nI i)), (2, .int (nI k))] [] n (mo q (tkD D (fun u => A 13 (40 * i + u)) k) A S h0) 0 0 Q) (sz) ?_ (fun k hk hn => ?_) 0 (by omega) (by omega) (fun u hu => absurd hu (by omega))
      · skip
        intro hk6 hall
        refine V.iload_n d_Mo_talks_30 rfl ?_
        refine V.aload_n d_Mo_talks_31 rfl ?_
        refine V.get d_Mo_talks_32 f_Mo_46_Mo mo_o rfl ?_
        refine V.iload_n d_Mo_talks_35 rfl ?_
        refine V.mlda 12 (by decide) (by decide) d_Mo_talks_36 (by first | omega | (show _ < 4; omega)) ?_
        refine V.top esz ?_
        refine V.geN (tgt := 94) d_Mo_talks_37 (by decide) (by omega) (by omega) (fun c_37 => ?_) (fun c_37 => ?_)
        · skip
          refine V.iload_n d_Mo_talks_94 rfl ?_
          refine V.iret d_Mo_talks_95 rfl (Nat.le_of_ble_eq_true rfl) (Nat.le_of_ble_eq_true rfl) ?_
          exact hOk i sz sz hi rfl c_19 esz hsz (by omega) (by omega) hall (Or.inl rfl)
        · skip
          exact absurd c_37 (by omega)
      · skip
        intro hk6 hall
        have eP : tkD D (fun u => A 13 (40 * i + u)) (k + 1) = upd (tkD D (fun u => A 13 (40 * i + u)) k) (44 + k) (A 13 (40 * i + k)) := rfl
        rw [eP] at hn
        refine V.iload_n d_Mo_talks_30 rfl ?_
        refine V.aload_n d_Mo_talks_31 rfl ?_
        refine V.get d_Mo_talks_32 f_Mo_46_Mo mo_o rfl ?_
        refine V.iload_n d_Mo_talks_35 rfl ?_
        refine V.mlda 12 (by decide) (by decide) d_Mo_talks_36 (by first | omega | (show _ < 4; omega)) ?_
        refine V.top esz ?_
        refine V.geN (tgt := 94) d_Mo_talks_37 (by decide) (by omega) (by omega) (fun c_37 => ?_) (fun c_37 => ?_)
        · skip
          exact absurd c_37 (by omega)
        · skip
          refine V.iload_n d_Mo_talks_40 rfl ?_
          refine V.bipush_ (nI 6) d_Mo_talks_41 (by decide +kernel) ?_
          refine V.geN (tgt := 94) d_Mo_talks_43 (by decide) (by omega) (by omega) (fun c_43 => ?_) (fun c_43 => ?_)
          · skip
            refine V.iload_n d_Mo_talks_94 rfl ?_
            refine V.iret d_Mo_talks_95 rfl (Nat.le_of_ble_eq_true rfl) (Nat.le_of_ble_eq_true rfl) ?_
            first
            | exact hOk i sz k hi rfl c_19 esz hsz (by omega) (by omega) hall (Or.inr (Or.inr ⟨by omega, by omega, c_65⟩))
            | exact hOk i sz k hi rfl c_19 esz hsz (by omega) (by omega) hall (Or.inr (Or.inl (by omega)))
          · skip
            refine V.aload_n d_Mo_talks_46 rfl ?_
            refine V.get d_Mo_talks_47 f_Mo_49_Mo mo_o rfl ?_
            refine V.bipush_ (nI 40) d_Mo_talks_50 (by decide +kernel) ?_
            refine V.iload_n d_Mo_talks_52 rfl ?_
            refine V.mulN d_Mo_talks_53 ?_
            refine V.iload_n d_Mo_talks_54 rfl ?_
            refine V.addN d_Mo_talks_55 ?_
            refine V.mlda 13 (by decide) (by decide) d_Mo_talks_56 (by first | omega | (show _ < 160; omega)) ?_
            refine V.i2l d_Mo_talks_57 ?_
            refine V.lconst_ ((nI 0).toInt64) d_Mo_talks_58 (by decide +kernel) ?_
            refine V.ldc2 (v := 9) d_Mo_talks_59 (tm 1252 (by decide +kernel) rfl) ?_
            refine V.eqS (st' := .long ((nI 9).toInt64) :: _) rfl ?_
            refine V.callS3 d_Mo_talks_62 k_Mo_56_Mo_inS (Nat.le_of_ble_eq_true rfl) (by omega) (by omega) (c_Mo_in ?_)
            refine V.ifeqB (tgt := 94) d_Mo_talks_65 (by decide) (fun c_65 => ?_) (fun c_65 => ?_)
            · skip
              refine V.iload_n d_Mo_talks_94 rfl ?_
              refine V.iret d_Mo_talks_95 rfl (Nat.le_of_ble_eq_true rfl) (Nat.le_of_ble_eq_true rfl) ?_
              first
              | exact hOk i sz k hi rfl c_19 esz hsz (by omega) (by omega) hall (Or.inr (Or.inr ⟨by omega, by omega, c_65⟩))
              | exact hOk i sz k hi rfl c_19 esz hsz (by omega) (by omega) hall (Or.inr (Or.inl (by omega)))
            · skip
              refine V.aload_n d_Mo_talks_68 rfl ?_
              refine V.get d_Mo_talks_69 f_Mo_7_Mo mo_o rfl ?_
              refine V.bipush_ (nI 44) d_Mo_talks_72 (by decide +kernel) ?_
              refine V.iload_n d_Mo_talks_74 rfl ?_
              refine V.addN d_Mo_talks_75 ?_
              refine V.aload_n d_Mo_talks_76 rfl ?_
              refine V.get d_Mo_talks_77 f_Mo_49_Mo mo_o rfl ?_
              refine V.bipush_ (nI 40) d_Mo_talks_80 (by decide +kernel) ?_
              refine V.iload_n d_Mo_talks_82 rfl ?_
              refine V.mulN d_Mo_talks_83 ?_
              refine V.iload_n d_Mo_talks_84 rfl ?_
              refine V.addN d_Mo_talks_85 ?_
              refine V.mlda 13 (by decide) (by decide) d_Mo_talks_86 (by first | omega | (show _ < 160; omega)) ?_
              refine V.mstd d_Mo_talks_87 (by omega) ?_
              refine V.incN d_Mo_talks_88 rfl (by decide) ?_
              refine V.goto (tgt := 30) d_Mo_talks_91 (by decide) ?_
              exact V.lc rfl (hn (by omega) (fun u hu => by
                by_cases huk : u = k
                · subst huk; exact c_65
                · exact hall u (by omega)))
    · skip
      refine V.aload_n d_Mo_talks_22 rfl ?_
      refine V.iconst_ (nI 2) d_Mo_talks_23 (by decide +kernel) ?_
      refine V.callV1 d_Mo_talks_24 k_Mo_138_Mo_finds_MoV mo_o (Nat.le_of_ble_eq_true rfl) (by omega) (by omega) (c_Mo_finds (by omega) ?_)
      refine V.iret d_Mo_talks_27 rfl (Nat.le_of_ble_eq_true rfl) (Nat.le_of_ble_eq_true rfl) ?_
      exact hN i hi rfl c_19
  · skip
    refine V.aload_n d_Mo_talks_7 rfl ?_
    refine V.iconst_ (nI 1) d_Mo_talks_8 (by decide +kernel) ?_
    refine V.callV1 d_Mo_talks_9 k_Mo_138_Mo_finds_MoV mo_o (Nat.le_of_ble_eq_true rfl) (by omega) (by omega) (c_Mo_finds (by omega) ?_)
    refine V.iret d_Mo_talks_12 rfl (Nat.le_of_ble_eq_true rfl) (Nat.le_of_ble_eq_true rfl) ?_
    exact hE c_4
abbrev M_Mo_judge : MD := (⟨"FelledByNamesModel", "judge", "(I)I"⟩, prog_14_method_83_code, 3, (some .int), fun _ => True)
theorem d_Mo_judge_0 : decode prog_14_method_83_code 0 = .ok (.iload_n 1, 1) := by decide +kernel
theorem d_Mo_judge_1 : decode prog_14_method_83_code 1 = .ok (.invokestatic 245, 3) := by decide +kernel
theorem d_Mo_judge_4 : decode prog_14_method_83_code 4 = .ok (.ifCond .ne 9, 3) := by decide +kernel
theorem d_Mo_judge_13 : decode prog_14_method_83_code 13 = .ok (.aload_n 0, 1) := by decide +kernel
theorem d_Mo_judge_14 : decode prog_14_method_83_code 14 = .ok (.getfield 43, 3) := by decide +kernel
theorem d_Mo_judge_17 : decode prog_14_method_83_code 17 = .ok (.iload_n 1, 1) := by decide +kernel
theorem d_Mo_judge_18 : decode prog_14_method_83_code 18 = .ok (.iaload, 1) := by decide +kernel
theorem d_Mo_judge_19 : decode prog_14_method_83_code 19 = .ok (.ifCond .ne 9, 3) := by decide +kernel
theorem d_Mo_judge_28 : decode prog_14_method_83_code 28 = .ok (.iconst 0, 1) := by decide +kernel
theorem d_Mo_judge_29 : decode prog_14_method_83_code 29 = .ok (.istore_n 2, 1) := by decide +kernel
theorem d_Mo_judge_30 : decode prog_14_method_83_code 30 = .ok (.iload_n 2, 1) := by decide +kernel
theorem d_Mo_judge_31 : decode prog_14_method_83_code 31 = .ok (.aload_n 0, 1) := by decide +kernel
theorem d_Mo_judge_32 : decode prog_14_method_83_code 32 = .ok (.getfield 46, 3) := by decide +kernel
theorem d_Mo_judge_35 : decode prog_14_method_83_code 35 = .ok (.iload_n 1, 1) := by decide +kernel
theorem d_Mo_judge_36 : decode prog_14_method_83_code 36 = .ok (.iaload, 1) := by decide +kernel
theorem d_Mo_judge_37 : decode prog_14_method_83_code 37 = .ok (.if_icmp .ge 39, 3) := by decide +kernel
theorem d_Mo_judge_76 : decode prog_14_method_83_code 76 = .ok (.iload_n 2, 1) := by decide +kernel
theorem d_Mo_judge_77 : decode prog_14_method_83_code 77 = .ok (.aload_n 0, 1) := by decide +kernel
theorem d_Mo_judge_78 : decode prog_14_method_83_code 78 = .ok (.getfield 46, 3) := by decide +kernel
theorem d_Mo_judge_81 : decode prog_14_method_83_code 81 = .ok (.iload_n 1, 1) := by decide +kernel
theorem d_Mo_judge_82 : decode prog_14_method_83_code 82 = .ok (.iaload, 1) := by decide +kernel
theorem d_Mo_judge_83 : decode prog_14_method_83_code 83 = .ok (.if_icmp .ne 17, 3) := by decide +kernel
theorem d_Mo_judge_100 : decode prog_14_method_83_code 100 = .ok (.iload_n 2, 1) := by decide +kernel
theorem d_Mo_judge_101 : decode prog_14_method_83_code 101 = .ok (.ireturn, 1) := by decide +kernel
theorem d_Mo_judge_86 : decode prog_14_method_83_code 86 = .ok (.iload_n 2, 1) := by decide +kernel
theorem d_Mo_judge_87 : decode prog_14_method_83_code 87 = .ok (.aload_n 0, 1) := by decide +kernel
theorem d_Mo_judge_88 : decode prog_14_method_83_code 88 = .ok (.getfield 7, 3) := by decide +kernel
theorem d_Mo_judge_91 : decode prog_14_method_83_code 91 = .ok (.iconst 0, 1) := by decide +kernel
theorem d_Mo_judge_92 : decode prog_14_method_83_code 92 = .ok (.iaload, 1) := by decide +kernel
theorem d_Mo_judge_93 : decode prog_14_method_83_code 93 = .ok (.if_icmp .ne 7, 3) := by decide +kernel
theorem d_Mo_judge_96 : decode prog_14_method_83_code 96 = .ok (.iconst (-1), 1) := by decide +kernel
theorem d_Mo_judge_97 : decode prog_14_method_83_code 97 = .ok (.goto 4, 3) := by decide +kernel
theorem d_Mo_judge_40 : decode prog_14_method_83_code 40 = .ok (.iload_n 2, 1) := by decide +kernel
theorem d_Mo_judge_41 : decode prog_14_method_83_code 41 = .ok (.aload_n 0, 1) := by decide +kernel
theorem d_Mo_judge_42 : decode prog_14_method_83_code 42 = .ok (.getfield 7, 3) := by decide +kernel
theorem d_Mo_judge_45 : decode prog_14_method_83_code 45 = .ok (.iconst 0, 1) := by decide +kernel
theorem d_Mo_judge_46 : decode prog_14_method_83_code 46 = .ok (.iaload, 1) := by decide +kernel
theorem d_Mo_judge_47 : decode prog_14_method_83_code 47 = .ok (.if_icmp .ge 29, 3) := by decide +kernel
theorem d_Mo_judge_50 : decode prog_14_method_83_code 50 = .ok (.aload_n 0, 1) := by decide +kernel
theorem d_Mo_judge_51 : decode prog_14_method_83_code 51 = .ok (.getfield 49, 3) := by decide +kernel
theorem d_Mo_judge_54 : decode prog_14_method_83_code 54 = .ok (.bipush 40, 2) := by decide +kernel
theorem d_Mo_judge_56 : decode prog_14_method_83_code 56 = .ok (.iload_n 1, 1) := by decide +kernel
theorem d_Mo_judge_57 : decode prog_14_method_83_code 57 = .ok (.imul, 1) := by decide +kernel
theorem d_Mo_judge_58 : decode prog_14_method_83_code 58 = .ok (.iload_n 2, 1) := by decide +kernel
theorem d_Mo_judge_59 : decode prog_14_method_83_code 59 = .ok (.iadd, 1) := by decide +kernel
theorem d_Mo_judge_60 : decode prog_14_method_83_code 60 = .ok (.iaload, 1) := by decide +kernel
theorem d_Mo_judge_61 : decode prog_14_method_83_code 61 = .ok (.aload_n 0, 1) := by decide +kernel
theorem d_Mo_judge_62 : decode prog_14_method_83_code 62 = .ok (.iload_n 2, 1) := by decide +kernel
theorem d_Mo_judge_63 : decode prog_14_method_83_code 63 = .ok (.iconst 5, 1) := by decide +kernel
theorem d_Mo_judge_64 : decode prog_14_method_83_code 64 = .ok (.invokevirtual 158, 3) := by decide +kernel
theorem d_Mo_judge_67 : decode prog_14_method_83_code 67 = .ok (.if_icmp .ne 9, 3) := by decide +kernel
theorem d_Mo_judge_70 : decode prog_14_method_83_code 70 = .ok (.iinc 2 1, 3) := by decide +kernel
theorem d_Mo_judge_73 : decode prog_14_method_83_code 73 = .ok (.goto (-43), 3) := by decide +kernel
theorem d_Mo_judge_22 : decode prog_14_method_83_code 22 = .ok (.aload_n 0, 1) := by decide +kernel
theorem d_Mo_judge_23 : decode prog_14_method_83_code 23 = .ok (.iconst 2, 1) := by decide +kernel
theorem d_Mo_judge_24 : decode prog_14_method_83_code 24 = .ok (.invokevirtual 138, 3) := by decide +kernel
theorem d_Mo_judge_27 : decode prog_14_method_83_code 27 = .ok (.ireturn, 1) := by decide +kernel
theorem d_Mo_judge_7 : decode prog_14_method_83_code 7 = .ok (.aload_n 0, 1) := by decide +kernel
theorem d_Mo_judge_8 : decode prog_14_method_83_code 8 = .ok (.iconst 1, 1) := by decide +kernel
theorem d_Mo_judge_9 : decode prog_14_method_83_code 9 = .ok (.invokevirtual 138, 3) := by decide +kernel
theorem d_Mo_judge_12 : decode prog_14_method_83_code 12 = .ok (.ireturn, 1) := by decide +kernel
set_option maxRecDepth 100000 in
theorem c_Mo_judge {N : Nat} {x : Int32} {l : Launch} {d q n : Nat} {D : Nat → Int32} {A : Nat → Nat → Int32} {S : Nat → Int32} {h0 : HP} {Q : QT} (hN8 : N ≤ 8) (e0 : D 0 = nI N) (hSz : ∀ i, i < 4 → NB (A 12) i 40) (hE : wi x (nI 0) (nI 3) = false → Q (some (.int (-1000000000 - nI 1))) n (mo q D (uA A 3 (upd (A 3) 1 (A 3 1 + nI 1))) S h0)) (hN : ∀ i, i ≤ 3 → x = nI i → A 11 i = 0 → Q (some (.int (-1000000000 - nI 2))) n (mo q D (uA A 3 (upd (A 3) 2 (A 3 2 + nI 1))) S h0)) (hOk : ∀ i sz k, i ≤ 3 → x = nI i → ¬ A 11 i = 0 → A 12 i = nI sz → sz ≤ 40 → k ≤ sz → k ≤ N → (∀ u, u < k → A 13 (40 * i + u) = D (50 + 7 * u + 5)) → (k = sz ∨ k = N ∨ (k < sz ∧ k < N ∧ ¬ A 13 (40 * i + k) = D (50 + 7 * k + 5))) → Q (some (.int (if k = sz ∧ k = N then -1 else nI k))) n (mo q D A S h0)) : Ct l M_Mo_judge (d + 2) 0 0 [.ref q, .int x] n (mo q D A S h0) Q := by
  refine Ct.of (fun _ => trivial) (by decide) (Nat.le_of_ble_eq_true rfl) ?_
  refine V.iload_n d_Mo_judge_0 rfl ?_
  refine V.callS1 d_Mo_judge_1 k_Mo_245_Mo_isSheetS (Nat.le_of_ble_eq_true rfl) (by omega) (by omega) (c_Mo_isSheet ?_)
  refine V.ifneB (tgt := 13) d_Mo_judge_4 (by decide) (fun c_4 => ?_) (fun c_4 => ?_)
  · skip
    obtain ⟨i, hi, rfl⟩ := wi_nat (by decide) c_4
    obtain ⟨sz, hsz, esz⟩ := hSz i (by omega)
    refine V.aload_n d_Mo_judge_13 rfl ?_
    refine V.get d_Mo_judge_14 f_Mo_43_Mo mo_o rfl ?_
    refine V.iload_n d_Mo_judge_17 rfl ?_
    refine V.mlda 11 (by decide) (by decide) d_Mo_judge_18 (by first | omega | (show _ < 4; omega)) ?_
    refine V.if_ne (tgt := 28) d_Mo_judge_19 (by decide) (fun c_19 => ?_) (fun c_19 => ?_)
    · skip
      refine V.iconst_ (nI 0) d_Mo_judge_28 (by decide +kernel) ?_
      refine V.istore_n d_Mo_judge_29 (by decide) ?_
      refine V.lc (ls' := [(0, .ref q), (1, .int (nI i)), (2, .int (nI 0))]) rfl ?_
      refine up_to (G := fun k => k ≤ N → (∀ u, u < k → A 13 (40 * i + u) = D (50 + 7 * u + 5)) → V l M_Mo_judge (d + 2) 0 0 30 [(0, .ref q), (1, .int (nI i)), (2, .int (nI k))] [] n (mo q D A S h0) 0 0 Q) (sz) ?_ (fun k hk hn => ?_) 0 (by omega) (by omega) (fun u hu => absurd hu (by omega))
      · skip
        intro hkN hall
        refine V.iload_n d_Mo_judge_30 rfl ?_
        refine V.aload_n d_Mo_judge_31 rfl ?_
        refine V.get d_Mo_judge_32 f_Mo_46_Mo mo_o rfl ?_
        refine V.iload_n d_Mo_judge_35 rfl ?_
        refine V.mlda 12 (by decide) (by decide) d_Mo_judge_36 (by first | omega | (show _ < 4; omega)) ?_
        refine V.top esz ?_
        refine V.geN (tgt := 76) d_Mo_judge_37 (by decide) (by omega) (by omega) (fun c_37 => ?_) (fun c_37 => ?_)
        · skip
          refine V.iload_n d_Mo_judge_76 rfl ?_
          refine V.aload_n d_Mo_judge_77 rfl ?_
          refine V.get d_Mo_judge_78 f_Mo_46_Mo mo_o rfl ?_
          refine V.iload_n d_Mo_judge_81 rfl ?_
          refine V.mlda 12 (by decide) (by decide) d_Mo_judge_82 (by first | omega | (show _ < 4; omega)) ?_
          refine V.top esz ?_
          refine V.neN (tgt := 100) d_Mo_judge_83 (by decide) (by omega) (by omega) (fun c_83 => ?_) (fun c_83 => ?_)
          · skip
            refine V.iload_n d_Mo_judge_100 rfl ?_
            refine V.iret d_Mo_judge_101 rfl (Nat.le_of_ble_eq_true rfl) (Nat.le_of_ble_eq_true rfl) ?_
            have hOk' := hOk i sz sz hi rfl c_19 esz hsz (by omega) (by omega) hall (by first | (left; omega) | (right; left; omega) | exact Or.inr (Or.inr ⟨by omega, by omega, c_67⟩))
            first
            | (rw [if_pos (by omega)] at hOk'; exact hOk')
            | (rw [if_neg (by omega)] at hOk'; exact hOk')
          · skip
            refine V.iload_n d_Mo_judge_86 rfl ?_
            refine V.aload_n d_Mo_judge_87 rfl ?_
            refine V.get d_Mo_judge_88 f_Mo_7_Mo mo_o rfl ?_
            refine V.iconst_ (nI 0) d_Mo_judge_91 (by decide +kernel) ?_
            refine V.mldd d_Mo_judge_92 (by omega) ?_
            refine V.top e0 ?_
            refine V.neN (tgt := 100) d_Mo_judge_93 (by decide) (by omega) (by omega) (fun c_93 => ?_) (fun c_93 => ?_)
            · skip
              refine V.iload_n d_Mo_judge_100 rfl ?_
              refine V.iret d_Mo_judge_101 rfl (Nat.le_of_ble_eq_true rfl) (Nat.le_of_ble_eq_true rfl) ?_
              have hOk' := hOk i sz sz hi rfl c_19 esz hsz (by omega) (by omega) hall (by first | (left; omega) | (right; left; omega) | exact Or.inr (Or.inr ⟨by omega, by omega, c_67⟩))
              first
              | (rw [if_pos (by omega)] at hOk'; exact hOk')
              | (rw [if_neg (by omega)] at hOk'; exact hOk')
            · skip
              refine V.iconst_ (-1) d_Mo_judge_96 (by decide +kernel) ?_
              refine V.goto (tgt := 101) d_Mo_judge_97 (by decide) ?_
              refine V.iret d_Mo_judge_101 rfl (Nat.le_of_ble_eq_true rfl) (Nat.le_of_ble_eq_true rfl) ?_
              have hOk' := hOk i sz sz hi rfl c_19 esz hsz (by omega) (by omega) hall (by first | (left; omega) | (right; left; omega) | exact Or.inr (Or.inr ⟨by omega, by omega, c_67⟩))
              first
              | (rw [if_pos (by omega)] at hOk'; exact hOk')
              | (rw [if_neg (by omega)] at hOk'; exact hOk')
        · skip
          exact absurd c_37 (by omega)
      · skip
        intro hkN hall
        refine V.iload_n d_Mo_judge_30 rfl ?_
        refine V.aload_n d_Mo_judge_31 rfl ?_
        refine V.get d_Mo_judge_32 f_Mo_46_Mo mo_o rfl ?_
        refine V.iload_n d_Mo_judge_35 rfl ?_
        refine V.mlda 12 (by decide) (by decide) d_Mo_judge_36 (by first | omega | (show _ < 4; omega)) ?_
        refine V.top esz ?_
        refine V.geN (tgt := 76) d_Mo_judge_37 (by decide) (by omega) (by omega) (fun c_37 => ?_) (fun c_37 => ?_)
        · skip
          exact absurd c_37 (by omega)
        · skip
          refine V.iload_n d_Mo_judge_40 rfl ?_
          refine V.aload_n d_Mo_judge_41 rfl ?_
          refine V.get d_Mo_judge_42 f_Mo_7_Mo mo_o rfl ?_
          refine V.iconst_ (nI 0) d_Mo_judge_45 (by decide +kernel) ?_
          refine V.mldd d_Mo_judge_46 (by omega) ?_
          refine V.top e0 ?_
          refine V.geN (tgt := 76) d_Mo_judge_47 (by decide) (by omega) (by omega) (fun c_47 => ?_) (fun c_47 => ?_)
          · skip
            refine V.iload_n d_Mo_judge_76 rfl ?_
            refine V.aload_n d_Mo_judge_77 rfl ?_
            refine V.get d_Mo_judge_78 f_Mo_46_Mo mo_o rfl ?_
            refine V.iload_n d_Mo_judge_81 rfl ?_
            refine V.mlda 12 (by decide) (by decide) d_Mo_judge_82 (by first | omega | (show _ < 4; omega)) ?_
            refine V.top esz ?_
            refine V.neN (tgt := 100) d_Mo_judge_83 (by decide) (by omega) (by omega) (fun c_83 => ?_) (fun c_83 => ?_)
            · skip
              refine V.iload_n d_Mo_judge_100 rfl ?_
              refine V.iret d_Mo_judge_101 rfl (Nat.le_of_ble_eq_true rfl) (Nat.le_of_ble_eq_true rfl) ?_
              have hOk' := hOk i sz k hi rfl c_19 esz hsz (by omega) (by omega) hall (by first | (left; omega) | (right; left; omega) | exact Or.inr (Or.inr ⟨by omega, by omega, c_67⟩))
              first
              | (rw [if_pos (by omega)] at hOk'; exact hOk')
              | (rw [if_neg (by omega)] at hOk'; exact hOk')
            · skip
              refine V.iload_n d_Mo_judge_86 rfl ?_
              refine V.aload_n d_Mo_judge_87 rfl ?_
              refine V.get d_Mo_judge_88 f_Mo_7_Mo mo_o rfl ?_
              refine V.iconst_ (nI 0) d_Mo_judge_91 (by decide +kernel) ?_
              refine V.mldd d_Mo_judge_92 (by omega) ?_
              refine V.top e0 ?_
              refine V.neN (tgt := 100) d_Mo_judge_93 (by decide) (by omega) (by omega) (fun c_93 => ?_) (fun c_93 => ?_)
              · skip
                refine V.iload_n d_Mo_judge_100 rfl ?_
                refine V.iret d_Mo_judge_101 rfl (Nat.le_of_ble_eq_true rfl) (Nat.le_of_ble_eq_true rfl) ?_
                have hOk' := hOk i sz k hi rfl c_19 esz hsz (by omega) (by omega) hall (by first | (left; omega) | (right; left; omega) | exact Or.inr (Or.inr ⟨by omega, by omega, c_67⟩))
                first
                | (rw [if_pos (by omega)] at hOk'; exact hOk')
                | (rw [if_neg (by omega)] at hOk'; exact hOk')
              · skip
                refine V.iconst_ (-1) d_Mo_judge_96 (by decide +kernel) ?_
                refine V.goto (tgt := 101) d_Mo_judge_97 (by decide) ?_
                refine V.iret d_Mo_judge_101 rfl (Nat.le_of_ble_eq_true rfl) (Nat.le_of_ble_eq_true rfl) ?_
                have hOk' := hOk i sz k hi rfl c_19 esz hsz (by omega) (by omega) hall (by first | (left; omega) | (right; left; omega) | exact Or.inr (Or.inr ⟨by omega, by omega, c_67⟩))
                first
                | (rw [if_pos (by omega)] at hOk'; exact hOk')
                | (rw [if_neg (by omega)] at hOk'; exact hOk')
          · skip
            refine V.aload_n d_Mo_judge_50 rfl ?_
            refine V.get d_Mo_judge_51 f_Mo_49_Mo mo_o rfl ?_
            refine V.bipush_ (nI 40) d_Mo_judge_54 (by decide +kernel) ?_
            refine V.iload_n d_Mo_judge_56 rfl ?_
            refine V.mulN d_Mo_judge_57 ?_
            refine V.iload_n d_Mo_judge_58 rfl ?_
            refine V.addN d_Mo_judge_59 ?_
            refine V.mlda 13 (by decide) (by decide) d_Mo_judge_60 (by first | omega | (show _ < 160; omega)) ?_
            refine V.aload_n d_Mo_judge_61 rfl ?_
            refine V.iload_n d_Mo_judge_62 rfl ?_
            refine V.iconst_ (nI 5) d_Mo_judge_63 (by decide +kernel) ?_
            refine V.callV2 d_Mo_judge_64 k_Mo_158_Mo_of_MoV mo_o (Nat.le_of_ble_eq_true rfl) (by omega) (by omega) (c_Mo_of (by omega) ?_)
            refine V.icmp_ne (tgt := 76) d_Mo_judge_67 (by decide) (fun c_67 => ?_) (fun c_67 => ?_)
            · skip
              refine V.iload_n d_Mo_judge_76 rfl ?_
              refine V.aload_n d_Mo_judge_77 rfl ?_
              refine V.get d_Mo_judge_78 f_Mo_46_Mo mo_o rfl ?_
              refine V.iload_n d_Mo_judge_81 rfl ?_
              refine V.mlda 12 (by decide) (by decide) d_Mo_judge_82 (by first | omega | (show _ < 4; omega)) ?_
              refine V.top esz ?_
              refine V.neN (tgt := 100) d_Mo_judge_83 (by decide) (by omega) (by omega) (fun c_83 => ?_) (fun c_83 => ?_)
              · skip
                refine V.iload_n d_Mo_judge_100 rfl ?_
                refine V.iret d_Mo_judge_101 rfl (Nat.le_of_ble_eq_true rfl) (Nat.le_of_ble_eq_true rfl) ?_
                have hOk' := hOk i sz k hi rfl c_19 esz hsz (by omega) (by omega) hall (by first | (left; omega) | (right; left; omega) | exact Or.inr (Or.inr ⟨by omega, by omega, c_67⟩))
                first
                | (rw [if_pos (by omega)] at hOk'; exact hOk')
                | (rw [if_neg (by omega)] at hOk'; exact hOk')
              · skip
                refine V.iload_n d_Mo_judge_86 rfl ?_
                refine V.aload_n d_Mo_judge_87 rfl ?_
                refine V.get d_Mo_judge_88 f_Mo_7_Mo mo_o rfl ?_
                refine V.iconst_ (nI 0) d_Mo_judge_91 (by decide +kernel) ?_
                refine V.mldd d_Mo_judge_92 (by omega) ?_
                refine V.top e0 ?_
                refine V.neN (tgt := 100) d_Mo_judge_93 (by decide) (by omega) (by omega) (fun c_93 => ?_) (fun c_93 => ?_)
                · skip
                  refine V.iload_n d_Mo_judge_100 rfl ?_
                  refine V.iret d_Mo_judge_101 rfl (Nat.le_of_ble_eq_true rfl) (Nat.le_of_ble_eq_true rfl) ?_
                  have hOk' := hOk i sz k hi rfl c_19 esz hsz (by omega) (by omega) hall (by first | (left; omega) | (right; left; omega) | exact Or.inr (Or.inr ⟨by omega, by omega, c_67⟩))
                  first
                  | (rw [if_pos (by omega)] at hOk'; exact hOk')
                  | (rw [if_neg (by omega)] at hOk'; exact hOk')
                · skip
                  refine V.iconst_ (-1) d_Mo_judge_96 (by decide +kernel) ?_
                  refine V.goto (tgt := 101) d_Mo_judge_97 (by decide) ?_
                  refine V.iret d_Mo_judge_101 rfl (Nat.le_of_ble_eq_true rfl) (Nat.le_of_ble_eq_true rfl) ?_
                  have hOk' := hOk i sz k hi rfl c_19 esz hsz (by omega) (by omega) hall (by first | (left; omega) | (right; left; omega) | exact Or.inr (Or.inr ⟨by omega, by omega, c_67⟩))
                  first
                  | (rw [if_pos (by omega)] at hOk'; exact hOk')
                  | (rw [if_neg (by omega)] at hOk'; exact hOk')
            · skip
              refine V.incN d_Mo_judge_70 rfl (by decide) ?_
              refine V.goto (tgt := 30) d_Mo_judge_73 (by decide) ?_
              exact V.lc rfl (hn (by omega) (fun u hu => by
                by_cases huk : u = k
                · subst huk; exact c_67
                · exact hall u (by omega)))
    · skip
      refine V.aload_n d_Mo_judge_22 rfl ?_
      refine V.iconst_ (nI 2) d_Mo_judge_23 (by decide +kernel) ?_
      refine V.callV1 d_Mo_judge_24 k_Mo_138_Mo_finds_MoV mo_o (Nat.le_of_ble_eq_true rfl) (by omega) (by omega) (c_Mo_finds (by omega) ?_)
      refine V.iret d_Mo_judge_27 rfl (Nat.le_of_ble_eq_true rfl) (Nat.le_of_ble_eq_true rfl) ?_
      exact hN i hi rfl c_19
  · skip
    refine V.aload_n d_Mo_judge_7 rfl ?_
    refine V.iconst_ (nI 1) d_Mo_judge_8 (by decide +kernel) ?_
    refine V.callV1 d_Mo_judge_9 k_Mo_138_Mo_finds_MoV mo_o (Nat.le_of_ble_eq_true rfl) (by omega) (by omega) (c_Mo_finds (by omega) ?_)
    refine V.iret d_Mo_judge_12 rfl (Nat.le_of_ble_eq_true rfl) (Nat.le_of_ble_eq_true rfl) ?_
    exact hE c_4
abbrev M_Mo_order : MD := (⟨"FelledByNamesModel", "order", "(I)I"⟩, prog_14_method_65_code, 3, (some .int), fun _ => True)
theorem dsD_cnt {cv wv : Int32 → Int32 → Int32 → Int32} {N : Nat} (hN : N ≤ 8) {D : Nat → Int32} : ∀ k, (dsD cv wv N k D).2.length + cst (dsD cv wv N k D).1 N ≤ cst D N := by
  intro k
  induction k with
  | zero => show 0 + cst D N ≤ cst D N; omega
  | succ k ih =>
    rw [dsD_s, List.length_append]
    have hst : ∀ (E : Nat → Int32), (dayD cv wv N E).2.length + cst (dayD cv wv N E).1 N ≤ cst E N := by
      intro E
      have e1 : ∀ (F G : Nat → Int32), (∀ j, F (50 + 7 * j + 6) = G (50 + 7 * j + 6)) → ∀ N, cst F N = cst G N := by
        intro F G h N
        induction N with
        | zero => rfl
        | succ N ih => simp only [cst]; rw [ih, h N]
      have h := itr_keep (P := fun Y : XX => Y.2.length + cst Y.1 N = cst E N) (g := fst3 wv N) N (dg2 (dc1 cv E 36) N, []) (fun k Y hk hY => by
        unfold fst3
        split
        · next h =>
          unfold ovr at h
          simp only [Bool.and_eq_true, decide_eq_true_eq] at h
          rw [fl_cnt 7 k Y hk h.1.1]; exact hY
        · exact hY) (by
          show 0 + cst (dg2 (dc1 cv E 36) N) N = cst E N
          rw [Nat.zero_add]
          exact e1 _ _ (fun j => by rw [dg2_x (by omega), dc1_x (by omega)]) N)
      have e2 : cst (dayD cv wv N E).1 N = cst (itr (fst3 wv N) N (dg2 (dc1 cv E 36) N, [])).1 N := e1 _ _ (fun j => pk_un (by omega)) N
      rw [e2]
      exact Nat.le_of_eq h
    have := hst (dsD cv wv N k D).1
    show (dsD cv wv N k D).2.length + (dayD cv wv N (dsD cv wv N k D).1).2.length + cst (dayD cv wv N (dsD cv wv N k D).1).1 N ≤ cst D N
    omega
theorem wrl_at (f : Nat → Int32) : ∀ (ts : List Nat) (m u : Nat), m + ts.length ≤ 8 → u < ts.length → wrl f m ts (m + u) = nI (ts.getD u 0) := by
  intro ts
  induction ts generalizing f with
  | nil => intro m u _ hu; exact absurd hu (by simp)
  | cons t ts ih =>
    intro m u hm hu
    have hm' : m + (ts.length + 1) ≤ 8 := hm
    cases u with
    | zero =>
      show wrl (wrf f m t) (m + 1) ts m = nI t
      have key : ∀ (ts : List Nat) (g : Nat → Int32) (k : Nat), m < k → wrl g k ts m = g m := by
        intro ts
        induction ts with
        | nil => intro g k _; rfl
        | cons a ts ih2 =>
          intro g k hk
          show wrl (wrf g k a) (k + 1) ts m = g m
          rw [ih2 _ _ (by omega)]
          unfold wrf
          split
          · exact pk_un (by omega)
          · rfl
      rw [key ts _ _ (by omega)]
      unfold wrf
      rw [if_pos (by omega), pk_us]
    | succ u =>
      have := ih (wrf f m t) (m + 1) u (by omega) (by have : u + 1 < ts.length + 1 := hu; omega)
      rw [show m + (u + 1) = m + 1 + u by omega]
      exact this
theorem d_Mo_order_0 : decode prog_14_method_65_code 0 = .ok (.iload_n 1, 1) := by decide +kernel
theorem d_Mo_order_1 : decode prog_14_method_65_code 1 = .ok (.invokestatic 245, 3) := by decide +kernel
theorem d_Mo_order_4 : decode prog_14_method_65_code 4 = .ok (.ifCond .ne 9, 3) := by decide +kernel
theorem d_Mo_order_13 : decode prog_14_method_65_code 13 = .ok (.aload_n 0, 1) := by decide +kernel
theorem d_Mo_order_14 : decode prog_14_method_65_code 14 = .ok (.getfield 43, 3) := by decide +kernel
theorem d_Mo_order_17 : decode prog_14_method_65_code 17 = .ok (.iload_n 1, 1) := by decide +kernel
theorem d_Mo_order_18 : decode prog_14_method_65_code 18 = .ok (.iaload, 1) := by decide +kernel
theorem d_Mo_order_19 : decode prog_14_method_65_code 19 = .ok (.ifCond .ne 9, 3) := by decide +kernel
theorem d_Mo_order_28 : decode prog_14_method_65_code 28 = .ok (.aload_n 0, 1) := by decide +kernel
theorem d_Mo_order_29 : decode prog_14_method_65_code 29 = .ok (.invokevirtual 228, 3) := by decide +kernel
theorem d_Mo_order_32 : decode prog_14_method_65_code 32 = .ok (.aload_n 0, 1) := by decide +kernel
theorem d_Mo_order_33 : decode prog_14_method_65_code 33 = .ok (.iconst 0, 1) := by decide +kernel
theorem d_Mo_order_34 : decode prog_14_method_65_code 34 = .ok (.putfield 168, 3) := by decide +kernel
theorem d_Mo_order_37 : decode prog_14_method_65_code 37 = .ok (.aload_n 0, 1) := by decide +kernel
theorem d_Mo_order_38 : decode prog_14_method_65_code 38 = .ok (.bipush 60, 2) := by decide +kernel
theorem d_Mo_order_40 : decode prog_14_method_65_code 40 = .ok (.invokevirtual 219, 3) := by decide +kernel
theorem d_Mo_order_43 : decode prog_14_method_65_code 43 = .ok (.aload_n 0, 1) := by decide +kernel
theorem d_Mo_order_44 : decode prog_14_method_65_code 44 = .ok (.invokevirtual 231, 3) := by decide +kernel
theorem d_Mo_order_47 : decode prog_14_method_65_code 47 = .ok (.iconst 0, 1) := by decide +kernel
theorem d_Mo_order_48 : decode prog_14_method_65_code 48 = .ok (.istore_n 2, 1) := by decide +kernel
theorem d_Mo_order_49 : decode prog_14_method_65_code 49 = .ok (.iload_n 2, 1) := by decide +kernel
theorem d_Mo_order_50 : decode prog_14_method_65_code 50 = .ok (.aload_n 0, 1) := by decide +kernel
theorem d_Mo_order_51 : decode prog_14_method_65_code 51 = .ok (.getfield 46, 3) := by decide +kernel
theorem d_Mo_order_54 : decode prog_14_method_65_code 54 = .ok (.iload_n 1, 1) := by decide +kernel
theorem d_Mo_order_55 : decode prog_14_method_65_code 55 = .ok (.iaload, 1) := by decide +kernel
theorem d_Mo_order_56 : decode prog_14_method_65_code 56 = .ok (.if_icmp .ge 37, 3) := by decide +kernel
theorem d_Mo_order_93 : decode prog_14_method_65_code 93 = .ok (.iload_n 2, 1) := by decide +kernel
theorem d_Mo_order_94 : decode prog_14_method_65_code 94 = .ok (.ireturn, 1) := by decide +kernel
theorem d_Mo_order_59 : decode prog_14_method_65_code 59 = .ok (.iload_n 2, 1) := by decide +kernel
theorem d_Mo_order_60 : decode prog_14_method_65_code 60 = .ok (.aload_n 0, 1) := by decide +kernel
theorem d_Mo_order_61 : decode prog_14_method_65_code 61 = .ok (.getfield 168, 3) := by decide +kernel
theorem d_Mo_order_64 : decode prog_14_method_65_code 64 = .ok (.if_icmp .ge 29, 3) := by decide +kernel
theorem d_Mo_order_67 : decode prog_14_method_65_code 67 = .ok (.aload_n 0, 1) := by decide +kernel
theorem d_Mo_order_68 : decode prog_14_method_65_code 68 = .ok (.getfield 49, 3) := by decide +kernel
theorem d_Mo_order_71 : decode prog_14_method_65_code 71 = .ok (.bipush 40, 2) := by decide +kernel
theorem d_Mo_order_73 : decode prog_14_method_65_code 73 = .ok (.iload_n 1, 1) := by decide +kernel
theorem d_Mo_order_74 : decode prog_14_method_65_code 74 = .ok (.imul, 1) := by decide +kernel
theorem d_Mo_order_75 : decode prog_14_method_65_code 75 = .ok (.iload_n 2, 1) := by decide +kernel
theorem d_Mo_order_76 : decode prog_14_method_65_code 76 = .ok (.iadd, 1) := by decide +kernel
theorem d_Mo_order_77 : decode prog_14_method_65_code 77 = .ok (.iaload, 1) := by decide +kernel
theorem d_Mo_order_78 : decode prog_14_method_65_code 78 = .ok (.aload_n 0, 1) := by decide +kernel
theorem d_Mo_order_79 : decode prog_14_method_65_code 79 = .ok (.getfield 37, 3) := by decide +kernel
theorem d_Mo_order_82 : decode prog_14_method_65_code 82 = .ok (.iload_n 2, 1) := by decide +kernel
theorem d_Mo_order_83 : decode prog_14_method_65_code 83 = .ok (.iaload, 1) := by decide +kernel
theorem d_Mo_order_84 : decode prog_14_method_65_code 84 = .ok (.if_icmp .ne 9, 3) := by decide +kernel
theorem d_Mo_order_87 : decode prog_14_method_65_code 87 = .ok (.iinc 2 1, 3) := by decide +kernel
theorem d_Mo_order_90 : decode prog_14_method_65_code 90 = .ok (.goto (-41), 3) := by decide +kernel
theorem d_Mo_order_22 : decode prog_14_method_65_code 22 = .ok (.aload_n 0, 1) := by decide +kernel
theorem d_Mo_order_23 : decode prog_14_method_65_code 23 = .ok (.iconst 2, 1) := by decide +kernel
theorem d_Mo_order_24 : decode prog_14_method_65_code 24 = .ok (.invokevirtual 138, 3) := by decide +kernel
theorem d_Mo_order_27 : decode prog_14_method_65_code 27 = .ok (.ireturn, 1) := by decide +kernel
theorem d_Mo_order_7 : decode prog_14_method_65_code 7 = .ok (.aload_n 0, 1) := by decide +kernel
theorem d_Mo_order_8 : decode prog_14_method_65_code 8 = .ok (.iconst 1, 1) := by decide +kernel
theorem d_Mo_order_9 : decode prog_14_method_65_code 9 = .ok (.invokevirtual 138, 3) := by decide +kernel
theorem d_Mo_order_12 : decode prog_14_method_65_code 12 = .ok (.ireturn, 1) := by decide +kernel
set_option maxRecDepth 100000 in
theorem c_Mo_order {x : Int32} {N fm len0 len1 : Nat} {W0 W1 : Nat → Nat} {l : Launch} {d q n : Nat} {D : Nat → Int32} {A : Nat → Nat → Int32} {S : Nat → Int32} {h0 : HP} {Q : QT} (hN : N ≤ 8) (hD : DW D N W0 len0 W1 len1) (hf : fm < 2 ^ 25) (ef : S 18 = nI fm) (hSz : ∀ i, i < 4 → NB (A 12) i 40) (hE : wi x (nI 0) (nI 3) = false → Q (some (.int (-1000000000 - nI 1))) n (mo q D (uA A 3 (upd (A 3) 1 (A 3 1 + nI 1))) S h0)) (hNo : ∀ i, i ≤ 3 → x = nI i → A 11 i = 0 → Q (some (.int (-1000000000 - nI 2))) n (mo q D (uA A 3 (upd (A 3) 2 (A 3 2 + nI 1))) S h0)) (hOk : ∀ i sz k, i ≤ 3 → x = nI i → ¬ A 11 i = 0 → A 12 i = nI sz → sz ≤ 40 → k ≤ sz → k ≤ (dsD (tgv 0 W0 len0) (tgv 1 W1 len1) N 60 D).2.length → (∀ u, u < k → A 13 (40 * i + u) = nI ((dsD (tgv 0 W0 len0) (tgv 1 W1 len1) N 60 D).2.getD u 0)) → (k = sz ∨ k = (dsD (tgv 0 W0 len0) (tgv 1 W1 len1) N 60 D).2.length ∨ (k < sz ∧ k < (dsD (tgv 0 W0 len0) (tgv 1 W1 len1) N 60 D).2.length ∧ ¬ A 13 (40 * i + k) = nI ((dsD (tgv 0 W0 len0) (tgv 1 W1 len1) N 60 D).2.getD k 0))) → ∀ (A1 : Nat → Nat → Int32) (f1 : Nat), (∀ j, j ≠ 2 → j ≠ 4 → j ≠ 6 → j ≠ 7 → j ≠ 8 → j ≠ 9 → A1 j = A j) → f1 ≤ 8 → Q (some (.int (nI k))) n (mo q D A1 (uS S 18 (nI f1)) h0)) : Ct l M_Mo_order (d + 7) 0 0 [.ref q, .int x] n (mo q D A S h0) Q := by
  refine Ct.of (fun _ => trivial) (by decide) (Nat.le_of_ble_eq_true rfl) ?_
  refine V.iload_n d_Mo_order_0 rfl ?_
  refine V.callS1 d_Mo_order_1 k_Mo_245_Mo_isSheetS (Nat.le_of_ble_eq_true rfl) (by omega) (by omega) (c_Mo_isSheet ?_)
  refine V.ifneB (tgt := 13) d_Mo_order_4 (by decide) (fun c_4 => ?_) (fun c_4 => ?_)
  · skip
    obtain ⟨i, hi, rfl⟩ := wi_nat (by decide) c_4
    obtain ⟨sz, hsz, esz⟩ := hSz i (by omega)
    refine V.aload_n d_Mo_order_13 rfl ?_
    refine V.get d_Mo_order_14 f_Mo_43_Mo mo_o rfl ?_
    refine V.iload_n d_Mo_order_17 rfl ?_
    refine V.mlda 11 (by decide) (by decide) d_Mo_order_18 (by first | omega | (show _ < 4; omega)) ?_
    refine V.if_ne (tgt := 28) d_Mo_order_19 (by decide) (fun c_19 => ?_) (fun c_19 => ?_)
    · skip
      refine V.aload_n d_Mo_order_28 rfl ?_
      refine V.callV0 d_Mo_order_29 k_Mo_228_Mo_keepAside_MoV mo_o (Nat.le_of_ble_eq_true rfl) (by omega) (by omega) (c_Mo_keepAside ?_)
      refine V.aload_n d_Mo_order_32 rfl ?_
      refine V.iconst_ (nI 0) d_Mo_order_33 (by decide +kernel) ?_
      refine V.mput d_Mo_order_34 f_Mo_168_Mo fp_Mo_18 rfl (by decide) ?_
      refine V.aload_n d_Mo_order_37 rfl ?_
      refine V.bipush_ (nI 60) d_Mo_order_38 (by decide +kernel) ?_
      refine V.callV1 d_Mo_order_40 k_Mo_219_Mo_daysGo_MoV mo_o (Nat.le_of_ble_eq_true rfl) (by omega) (by omega) (c_Mo_daysGo (fm := 0) hN hD (by decide) uS_s (by omega) (fun A2 hA2 hA92 => ?_))
      refine V.aload_n d_Mo_order_43 rfl ?_
      refine V.callV0 d_Mo_order_44 k_Mo_231_Mo_putBack_MoV mo_o (Nat.le_of_ble_eq_true rfl) (by omega) (by omega) (c_Mo_putBack ?_)
      have hbk : cpN 106 (cpN 106 D (A 2)) (dsD (tgv 0 W0 len0) (tgv 1 W1 len1) N 60 D).1 = D := bk (fun j hj => dsD_x hN (by unfold kpt; omega) _)
      rw [hA2 2 (by decide) (by decide) (by decide) (by decide) (by decide), uA_s, hbk, uS_uu, Nat.zero_add]
      have hcn := dsD_cnt (cv := tgv 0 W0 len0) (wv := tgv 1 W1 len1) hN (D := D) 60
      have hcl := cst_le (D := D) N
      have h11 : A2 11 = A 11 := (hA2 11 (by decide) (by decide) (by decide) (by decide) (by decide)).trans (uA_n (by decide))
      have h12 : A2 12 = A 12 := (hA2 12 (by decide) (by decide) (by decide) (by decide) (by decide)).trans (uA_n (by decide))
      have h13 : A2 13 = A 13 := (hA2 13 (by decide) (by decide) (by decide) (by decide) (by decide)).trans (uA_n (by decide))
      rw [uA_n (by decide)] at hA92
      have h9 : ∀ u, u < (dsD (tgv 0 W0 len0) (tgv 1 W1 len1) N 60 D).2.length → A2 9 u = nI ((dsD (tgv 0 W0 len0) (tgv 1 W1 len1) N 60 D).2.getD u 0) := fun u hu => by
        have := wrl_at (A 9) (dsD (tgv 0 W0 len0) (tgv 1 W1 len1) N 60 D).2 0 u (by omega) hu
        rw [Nat.zero_add] at this
        rw [hA92]; exact this
      refine V.iconst_ (nI 0) d_Mo_order_47 (by decide +kernel) ?_
      refine V.istore_n d_Mo_order_48 (by decide) ?_
      refine V.lc (ls' := [(0, .ref q), (1, .int (nI i)), (2, .int (nI 0))]) rfl ?_
      refine up_to (G := fun k => k ≤ (dsD (tgv 0 W0 len0) (tgv 1 W1 len1) N 60 D).2.length → (∀ u, u < k → A 13 (40 * i + u) = nI ((dsD (tgv 0 W0 len0) (tgv 1 W1 len1) N 60 D).2.getD u 0)) → V l M_Mo_order (d + 7) 0 0 49 [(0, .ref q), (1, .int (nI i)), (2, .int (nI k))] [] n (mo q D A2 (uS S 18 (nI (dsD (tgv 0 W0 len0) (tgv 1 W1 len1) N 60 D).2.length)) h0) 0 0 Q) (sz) ?_ (fun k hk hn => ?_) 0 (by omega) (by omega) (fun u hu => absurd hu (by omega))
      · skip
        intro hkN hall
        refine V.iload_n d_Mo_order_49 rfl ?_
        refine V.aload_n d_Mo_order_50 rfl ?_
        refine V.get d_Mo_order_51 f_Mo_46_Mo mo_o rfl ?_
        refine V.iload_n d_Mo_order_54 rfl ?_
        refine V.mlda 12 (by decide) (by decide) d_Mo_order_55 (by first | omega | (show _ < 4; omega)) ?_
        refine V.top (show A2 12 i = nI sz by rw [h12]; exact esz) ?_
        refine V.geN (tgt := 93) d_Mo_order_56 (by decide) (by omega) (by omega) (fun c_56 => ?_) (fun c_56 => ?_)
        · skip
          refine V.iload_n d_Mo_order_93 rfl ?_
          refine V.iret d_Mo_order_94 rfl (Nat.le_of_ble_eq_true rfl) (Nat.le_of_ble_eq_true rfl) ?_
          exact hOk i sz sz hi rfl c_19 esz hsz (by omega) (by omega) hall (by first | (left; omega) | (right; left; omega) | (rw [h13, h9 k c_64] at c_84; exact Or.inr (Or.inr ⟨by omega, by omega, c_84⟩))) A2 _ (fun j h1 h2 h3 h4 h5 h6 => (hA2 j h2 h3 h4 h5 h6).trans (uA_n h1)) (by omega)
        · skip
          exact absurd c_56 (by omega)
      · skip
        intro hkN hall
        refine V.iload_n d_Mo_order_49 rfl ?_
        refine V.aload_n d_Mo_order_50 rfl ?_
        refine V.get d_Mo_order_51 f_Mo_46_Mo mo_o rfl ?_
        refine V.iload_n d_Mo_order_54 rfl ?_
        refine V.mlda 12 (by decide) (by decide) d_Mo_order_55 (by first | omega | (show _ < 4; omega)) ?_
        refine V.top (show A2 12 i = nI sz by rw [h12]; exact esz) ?_
        refine V.geN (tgt := 93) d_Mo_order_56 (by decide) (by omega) (by omega) (fun c_56 => ?_) (fun c_56 => ?_)
        · skip
          exact absurd c_56 (by omega)
        · skip
          refine V.iload_n d_Mo_order_59 rfl ?_
          refine V.aload_n d_Mo_order_60 rfl ?_
          refine V.get d_Mo_order_61 f_Mo_168_Mo mo_o rfl ?_
          refine V.top uS_s ?_
          refine V.geN (tgt := 93) d_Mo_order_64 (by decide) (by omega) (by omega) (fun c_64 => ?_) (fun c_64 => ?_)
          · skip
            refine V.iload_n d_Mo_order_93 rfl ?_
            refine V.iret d_Mo_order_94 rfl (Nat.le_of_ble_eq_true rfl) (Nat.le_of_ble_eq_true rfl) ?_
            exact hOk i sz k hi rfl c_19 esz hsz (by omega) (by omega) hall (by first | (left; omega) | (right; left; omega) | (rw [h13, h9 k c_64] at c_84; exact Or.inr (Or.inr ⟨by omega, by omega, c_84⟩))) A2 _ (fun j h1 h2 h3 h4 h5 h6 => (hA2 j h2 h3 h4 h5 h6).trans (uA_n h1)) (by omega)
          · skip
            refine V.aload_n d_Mo_order_67 rfl ?_
            refine V.get d_Mo_order_68 f_Mo_49_Mo mo_o rfl ?_
            refine V.bipush_ (nI 40) d_Mo_order_71 (by decide +kernel) ?_
            refine V.iload_n d_Mo_order_73 rfl ?_
            refine V.mulN d_Mo_order_74 ?_
            refine V.iload_n d_Mo_order_75 rfl ?_
            refine V.addN d_Mo_order_76 ?_
            refine V.mlda 13 (by decide) (by decide) d_Mo_order_77 (by first | omega | (show _ < 160; omega)) ?_
            refine V.aload_n d_Mo_order_78 rfl ?_
            refine V.get d_Mo_order_79 f_Mo_37_Mo mo_o rfl ?_
            refine V.iload_n d_Mo_order_82 rfl ?_
            refine V.mlda 9 (by decide) (by decide) d_Mo_order_83 (by first | omega | (show _ < 8; omega)) ?_
            refine V.icmp_ne (tgt := 93) d_Mo_order_84 (by decide) (fun c_84 => ?_) (fun c_84 => ?_)
            · skip
              refine V.iload_n d_Mo_order_93 rfl ?_
              refine V.iret d_Mo_order_94 rfl (Nat.le_of_ble_eq_true rfl) (Nat.le_of_ble_eq_true rfl) ?_
              exact hOk i sz k hi rfl c_19 esz hsz (by omega) (by omega) hall (by first | (left; omega) | (right; left; omega) | (rw [h13, h9 k c_64] at c_84; exact Or.inr (Or.inr ⟨by omega, by omega, c_84⟩))) A2 _ (fun j h1 h2 h3 h4 h5 h6 => (hA2 j h2 h3 h4 h5 h6).trans (uA_n h1)) (by omega)
            · skip
              refine V.incN d_Mo_order_87 rfl (by decide) ?_
              refine V.goto (tgt := 49) d_Mo_order_90 (by decide) ?_
              rw [h13, h9 k c_64] at c_84
              exact V.lc rfl (hn (by omega) (fun u hu => by
                by_cases huk : u = k
                · subst huk; exact c_84
                · exact hall u (by omega)))
    · skip
      refine V.aload_n d_Mo_order_22 rfl ?_
      refine V.iconst_ (nI 2) d_Mo_order_23 (by decide +kernel) ?_
      refine V.callV1 d_Mo_order_24 k_Mo_138_Mo_finds_MoV mo_o (Nat.le_of_ble_eq_true rfl) (by omega) (by omega) (c_Mo_finds (by omega) ?_)
      refine V.iret d_Mo_order_27 rfl (Nat.le_of_ble_eq_true rfl) (Nat.le_of_ble_eq_true rfl) ?_
      exact hNo i hi rfl c_19
  · skip
    refine V.aload_n d_Mo_order_7 rfl ?_
    refine V.iconst_ (nI 1) d_Mo_order_8 (by decide +kernel) ?_
    refine V.callV1 d_Mo_order_9 k_Mo_138_Mo_finds_MoV mo_o (Nat.le_of_ble_eq_true rfl) (by omega) (by omega) (c_Mo_finds (by omega) ?_)
    refine V.iret d_Mo_order_12 rfl (Nat.le_of_ble_eq_true rfl) (Nat.le_of_ble_eq_true rfl) ?_
    exact hE c_4
