def hld (v lo hi : Int32) : Int32 := if v < lo then lo else if hi < v then hi else v
def two (a b : Int32) : Bool := wi a (nI 0) (nI 5) && wi b (nI 0) (nI 5) && !decide (a = b)
def cpN (N : Nat) (f g : Nat → Int32) : Nat → Int32 := fun j => if j < N then f j else g j
theorem cpN_s (k : Nat) (f g : Nat → Int32) : upd (cpN k f g) k (f k) = cpN (k + 1) f g := by
  funext j
  by_cases hj : j = k
  · subst hj; simp [upd, cpN]
  · simp only [upd, cpN, if_neg hj]
    by_cases h1 : j < k
    · rw [if_pos h1, if_pos (by omega)]
    · rw [if_neg h1, if_neg (by omega)]
theorem in_t {x lo hi : Int32} (h1 : ¬ lg_cmp x.toInt64 lo.toInt64 < 0) (h2 : ¬ 0 < lg_cmp x.toInt64 hi.toInt64) : wi x lo hi = true := by
  simp only [wi, Bool.and_eq_true, decide_eq_true_eq]
  exact ⟨(i64_le _ _).mp (Int64.not_lt.mp fun z => h1 ((lg_cmp_lt _ _).mpr z)), (i64_le _ _).mp (Int64.not_lt.mp fun z => h2 ((lg_cmp_gt _ _).mpr z))⟩
theorem in_f1 {x lo hi : Int32} (h1 : lg_cmp x.toInt64 lo.toInt64 < 0) : wi x lo hi = false := by
  simp only [wi, Bool.and_eq_false_iff, decide_eq_false_iff_not]
  exact Or.inl (fun z => Int64.not_lt.mpr ((i64_le _ _).mpr z) ((lg_cmp_lt _ _).mp h1))
theorem in_f2 {x lo hi : Int32} (h1 : 0 < lg_cmp x.toInt64 hi.toInt64) : wi x lo hi = false := by
  simp only [wi, Bool.and_eq_false_iff, decide_eq_false_iff_not]
  exact Or.inr (fun z => Int64.not_lt.mpr ((i64_le _ _).mpr z) ((lg_cmp_gt _ _).mp h1))
theorem cpN_0 (f g : Nat → Int32) : cpN 0 f g = g := by funext j; simp [cpN]
abbrev M_Mo_finds : MD := (⟨"FelledByNamesModel", "finds", "(I)I"⟩, prog_14_method_3_code, 2, (some .int), fun _ => True)
theorem d_Mo_finds_0 : decode prog_14_method_3_code 0 = .ok (.aload_n 0, 1) := by decide +kernel
theorem d_Mo_finds_1 : decode prog_14_method_3_code 1 = .ok (.getfield 19, 3) := by decide +kernel
theorem f_Mo_19_Mo : fok "FelledByNamesModel" 19 5 4 := ⟨R_Mo, F_Mo, 26, "FelledByNamesModel", rfl, i_Mo, by decide, tm 1063 (by decide +kernel) rfl, Or.inl rfl, t_Mo, t_Mo_ok, n_Mo⟩
theorem d_Mo_finds_4 : decode prog_14_method_3_code 4 = .ok (.iload_n 1, 1) := by decide +kernel
theorem d_Mo_finds_5 : decode prog_14_method_3_code 5 = .ok (.dup2, 1) := by decide +kernel
theorem d_Mo_finds_6 : decode prog_14_method_3_code 6 = .ok (.iaload, 1) := by decide +kernel
theorem d_Mo_finds_7 : decode prog_14_method_3_code 7 = .ok (.iconst 1, 1) := by decide +kernel
theorem d_Mo_finds_8 : decode prog_14_method_3_code 8 = .ok (.iadd, 1) := by decide +kernel
theorem d_Mo_finds_9 : decode prog_14_method_3_code 9 = .ok (.iastore, 1) := by decide +kernel
theorem d_Mo_finds_10 : decode prog_14_method_3_code 10 = .ok (.ldc 55, 2) := by decide +kernel
theorem d_Mo_finds_12 : decode prog_14_method_3_code 12 = .ok (.iload_n 1, 1) := by decide +kernel
theorem d_Mo_finds_13 : decode prog_14_method_3_code 13 = .ok (.isub, 1) := by decide +kernel
theorem d_Mo_finds_14 : decode prog_14_method_3_code 14 = .ok (.ireturn, 1) := by decide +kernel
set_option maxRecDepth 100000 in
theorem c_Mo_finds {i : Nat} {l : Launch} {d q n : Nat} {D : Nat → Int32} {A : Nat → Nat → Int32} {S : Nat → Int32} {h0 : HP} {Q : QT} (hi : i < 6) (hQ : Q (some (.int (-1000000000 - nI i))) n (mo q D (uA A 3 (upd (A 3) i (A 3 i + nI 1))) S h0)) : Ct l M_Mo_finds d 0 0 [.ref q, .int (nI i)] n (mo q D A S h0) Q := by
  refine Ct.of (fun _ => trivial) (by decide) (Nat.le_of_ble_eq_true rfl) ?_
  refine V.aload_n d_Mo_finds_0 rfl ?_
  refine V.get d_Mo_finds_1 f_Mo_19_Mo mo_o rfl ?_
  refine V.iload_n d_Mo_finds_4 rfl ?_
  refine V.dup2 rfl rfl d_Mo_finds_5 ?_
  refine V.mlda 3 (by decide) (by decide) d_Mo_finds_6 (by first | omega | (show _ < 6; omega)) ?_
  refine V.iconst_ (nI 1) d_Mo_finds_7 (by decide +kernel) ?_
  refine V.iadd d_Mo_finds_8 ?_
  refine V.msta 3 (by decide) (by decide) d_Mo_finds_9 (by first | omega | (show _ < 6; omega)) ?_
  refine V.ldc (v := -1000000000) d_Mo_finds_10 (tm 1150 (by decide +kernel) rfl) ?_
  refine V.iload_n d_Mo_finds_12 rfl ?_
  refine V.isub d_Mo_finds_13 ?_
  refine V.iret d_Mo_finds_14 rfl (Nat.le_of_ble_eq_true rfl) (Nat.le_of_ble_eq_true rfl) ?_
  exact hQ
abbrev M_Mo_in : MD := (⟨"FelledByNamesModel", "in", "(JJJ)Z"⟩, prog_14_method_4_code, 6, (some .boolean), fun _ => True)
theorem d_Mo_in_0 : decode prog_14_method_4_code 0 = .ok (.lload_n 0, 1) := by decide +kernel
theorem d_Mo_in_1 : decode prog_14_method_4_code 1 = .ok (.lload_n 2, 1) := by decide +kernel
theorem d_Mo_in_2 : decode prog_14_method_4_code 2 = .ok (.lcmp, 1) := by decide +kernel
theorem d_Mo_in_3 : decode prog_14_method_4_code 3 = .ok (.ifCond .lt 14, 3) := by decide +kernel
theorem d_Mo_in_17 : decode prog_14_method_4_code 17 = .ok (.iconst 0, 1) := by decide +kernel
theorem d_Mo_in_18 : decode prog_14_method_4_code 18 = .ok (.ireturn, 1) := by decide +kernel
theorem d_Mo_in_6 : decode prog_14_method_4_code 6 = .ok (.lload_n 0, 1) := by decide +kernel
theorem d_Mo_in_7 : decode prog_14_method_4_code 7 = .ok (.lload 4, 2) := by decide +kernel
theorem d_Mo_in_9 : decode prog_14_method_4_code 9 = .ok (.lcmp, 1) := by decide +kernel
theorem d_Mo_in_10 : decode prog_14_method_4_code 10 = .ok (.ifCond .gt 7, 3) := by decide +kernel
theorem d_Mo_in_13 : decode prog_14_method_4_code 13 = .ok (.iconst 1, 1) := by decide +kernel
theorem d_Mo_in_14 : decode prog_14_method_4_code 14 = .ok (.goto 4, 3) := by decide +kernel
set_option maxRecDepth 100000 in
theorem c_Mo_in {x lo hi : Int32} {l : Launch} {d n : Nat} {h : HP} {Q : QT} (hQ : Q (some (.int (bi (wi x lo hi)))) n h) : Ct l M_Mo_in d 0 0 [.long x.toInt64, .long lo.toInt64, .long hi.toInt64] n h Q := by
  refine Ct.of (fun _ => trivial) (by decide) (Nat.le_of_ble_eq_true rfl) ?_
  refine V.lload_n d_Mo_in_0 rfl ?_
  refine V.lload_n d_Mo_in_1 rfl ?_
  refine V.lcmp d_Mo_in_2 ?_
  refine V.if_lt (tgt := 17) d_Mo_in_3 (by decide) (fun c_3 => ?_) (fun c_3 => ?_)
  · skip
    refine V.iconst_ (nI 0) d_Mo_in_17 (by decide +kernel) ?_
    refine V.zret d_Mo_in_18 rfl rfl (Nat.le_of_ble_eq_true rfl) (Nat.le_of_ble_eq_true rfl) ?_
    first | exact Qb hQ (in_t c_3 c_10) | exact Qb hQ (in_f2 c_10) | exact Qb hQ (in_f1 c_3)
  · skip
    refine V.lload_n d_Mo_in_6 rfl ?_
    refine V.lload d_Mo_in_7 rfl ?_
    refine V.lcmp d_Mo_in_9 ?_
    refine V.if_gt (tgt := 17) d_Mo_in_10 (by decide) (fun c_10 => ?_) (fun c_10 => ?_)
    · skip
      refine V.iconst_ (nI 0) d_Mo_in_17 (by decide +kernel) ?_
      refine V.zret d_Mo_in_18 rfl rfl (Nat.le_of_ble_eq_true rfl) (Nat.le_of_ble_eq_true rfl) ?_
      first | exact Qb hQ (in_t c_3 c_10) | exact Qb hQ (in_f2 c_10) | exact Qb hQ (in_f1 c_3)
    · skip
      refine V.iconst_ (nI 1) d_Mo_in_13 (by decide +kernel) ?_
      refine V.goto (tgt := 18) d_Mo_in_14 (by decide) ?_
      refine V.zret d_Mo_in_18 rfl rfl (Nat.le_of_ble_eq_true rfl) (Nat.le_of_ble_eq_true rfl) ?_
      first | exact Qb hQ (in_t c_3 c_10) | exact Qb hQ (in_f2 c_10) | exact Qb hQ (in_f1 c_3)
abbrev M_Mo_held : MD := (⟨"FelledByNamesModel", "held", "(III)I"⟩, prog_14_method_5_code, 3, (some .int), fun _ => True)
theorem d_Mo_held_0 : decode prog_14_method_5_code 0 = .ok (.iload_n 0, 1) := by decide +kernel
theorem d_Mo_held_1 : decode prog_14_method_5_code 1 = .ok (.iload_n 1, 1) := by decide +kernel
theorem d_Mo_held_2 : decode prog_14_method_5_code 2 = .ok (.if_icmp .ge 7, 3) := by decide +kernel
theorem d_Mo_held_9 : decode prog_14_method_5_code 9 = .ok (.iload_n 0, 1) := by decide +kernel
theorem d_Mo_held_10 : decode prog_14_method_5_code 10 = .ok (.iload_n 2, 1) := by decide +kernel
theorem d_Mo_held_11 : decode prog_14_method_5_code 11 = .ok (.if_icmp .le 7, 3) := by decide +kernel
theorem d_Mo_held_18 : decode prog_14_method_5_code 18 = .ok (.iload_n 0, 1) := by decide +kernel
theorem d_Mo_held_19 : decode prog_14_method_5_code 19 = .ok (.ireturn, 1) := by decide +kernel
theorem d_Mo_held_14 : decode prog_14_method_5_code 14 = .ok (.iload_n 2, 1) := by decide +kernel
theorem d_Mo_held_15 : decode prog_14_method_5_code 15 = .ok (.goto 4, 3) := by decide +kernel
theorem d_Mo_held_5 : decode prog_14_method_5_code 5 = .ok (.iload_n 1, 1) := by decide +kernel
theorem d_Mo_held_6 : decode prog_14_method_5_code 6 = .ok (.goto 13, 3) := by decide +kernel
set_option maxRecDepth 100000 in
theorem c_Mo_held {x lo hi : Int32} {l : Launch} {d n : Nat} {h : HP} {Q : QT} (hQ : Q (some (.int (hld x lo hi))) n h) : Ct l M_Mo_held d 0 0 [.int x, .int lo, .int hi] n h Q := by
  refine Ct.of (fun _ => trivial) (by decide) (Nat.le_of_ble_eq_true rfl) ?_
  refine V.iload_n d_Mo_held_0 rfl ?_
  refine V.iload_n d_Mo_held_1 rfl ?_
  refine V.icmp_ge (tgt := 9) d_Mo_held_2 (by decide) (fun c_2 => ?_) (fun c_2 => ?_)
  · skip
    refine V.iload_n d_Mo_held_9 rfl ?_
    refine V.iload_n d_Mo_held_10 rfl ?_
    refine V.icmp_le (tgt := 18) d_Mo_held_11 (by decide) (fun c_11 => ?_) (fun c_11 => ?_)
    · skip
      refine V.iload_n d_Mo_held_18 rfl ?_
      refine V.iret d_Mo_held_19 rfl (Nat.le_of_ble_eq_true rfl) (Nat.le_of_ble_eq_true rfl) ?_
      unfold hld at hQ
      first | (rw [if_pos (Int32.not_le.mp c_2)] at hQ; exact hQ) | (rw [if_neg (Int32.not_lt.mpr c_2), if_pos (Int32.not_le.mp c_11)] at hQ; exact hQ) | (rw [if_neg (Int32.not_lt.mpr c_2), if_neg (Int32.not_lt.mpr c_11)] at hQ; exact hQ)
    · skip
      refine V.iload_n d_Mo_held_14 rfl ?_
      refine V.goto (tgt := 19) d_Mo_held_15 (by decide) ?_
      refine V.iret d_Mo_held_19 rfl (Nat.le_of_ble_eq_true rfl) (Nat.le_of_ble_eq_true rfl) ?_
      unfold hld at hQ
      first | (rw [if_pos (Int32.not_le.mp c_2)] at hQ; exact hQ) | (rw [if_neg (Int32.not_lt.mpr c_2), if_pos (Int32.not_le.mp c_11)] at hQ; exact hQ) | (rw [if_neg (Int32.not_lt.mpr c_2), if_neg (Int32.not_lt.mpr c_11)] at hQ; exact hQ)
  · skip
    refine V.iload_n d_Mo_held_5 rfl ?_
    refine V.goto (tgt := 19) d_Mo_held_6 (by decide) ?_
    refine V.iret d_Mo_held_19 rfl (Nat.le_of_ble_eq_true rfl) (Nat.le_of_ble_eq_true rfl) ?_
    unfold hld at hQ
    first | (rw [if_pos (Int32.not_le.mp c_2)] at hQ; exact hQ) | (rw [if_neg (Int32.not_lt.mpr c_2), if_pos (Int32.not_le.mp c_11)] at hQ; exact hQ) | (rw [if_neg (Int32.not_lt.mpr c_2), if_neg (Int32.not_lt.mpr c_11)] at hQ; exact hQ)
abbrev M_Mo_isTree : MD := (⟨"FelledByNamesModel", "isTree", "(I)Z"⟩, prog_14_method_6_code, 2, (some .boolean), fun _ => True)
theorem d_Mo_isTree_0 : decode prog_14_method_6_code 0 = .ok (.iload_n 1, 1) := by decide +kernel
theorem d_Mo_isTree_1 : decode prog_14_method_6_code 1 = .ok (.i2l, 1) := by decide +kernel
theorem d_Mo_isTree_2 : decode prog_14_method_6_code 2 = .ok (.lconst 0, 1) := by decide +kernel
theorem d_Mo_isTree_3 : decode prog_14_method_6_code 3 = .ok (.aload_n 0, 1) := by decide +kernel
theorem d_Mo_isTree_4 : decode prog_14_method_6_code 4 = .ok (.getfield 7, 3) := by decide +kernel
theorem f_Mo_7_Mo : fok "FelledByNamesModel" 7 5 0 := ⟨R_Mo, F_Mo, 26, "FelledByNamesModel", rfl, i_Mo, by decide, tm 1059 (by decide +kernel) rfl, Or.inl rfl, t_Mo, t_Mo_ok, n_Mo⟩
theorem d_Mo_isTree_7 : decode prog_14_method_6_code 7 = .ok (.iconst 0, 1) := by decide +kernel
theorem d_Mo_isTree_8 : decode prog_14_method_6_code 8 = .ok (.iaload, 1) := by decide +kernel
theorem d_Mo_isTree_9 : decode prog_14_method_6_code 9 = .ok (.iconst 1, 1) := by decide +kernel
theorem d_Mo_isTree_10 : decode prog_14_method_6_code 10 = .ok (.isub, 1) := by decide +kernel
theorem d_Mo_isTree_11 : decode prog_14_method_6_code 11 = .ok (.i2l, 1) := by decide +kernel
theorem d_Mo_isTree_12 : decode prog_14_method_6_code 12 = .ok (.invokestatic 56, 3) := by decide +kernel
theorem kB_Mo_in : kB M_Mo_in 3 := ⟨tm 15 (by decide +kernel) rfl, tm 1145 (by decide +kernel) rfl, ⟨by decide, by decide, by decide +kernel⟩, by decide⟩
theorem k_Mo_56_Mo_inS : kS "FelledByNamesModel" 56 M_Mo_in 3 := ⟨kB_Mo_in, tm 1143 (by decide +kernel) rfl, tm 1144 (by decide +kernel) rfl⟩
theorem d_Mo_isTree_15 : decode prog_14_method_6_code 15 = .ok (.ireturn, 1) := by decide +kernel
set_option maxRecDepth 100000 in
theorem c_Mo_isTree {x : Int32} {l : Launch} {d q n : Nat} {D : Nat → Int32} {A : Nat → Nat → Int32} {S : Nat → Int32} {h0 : HP} {Q : QT} (hQ : Q (some (.int (bi (wi x (nI 0) (D 0 - nI 1))))) n (mo q D A S h0)) : Ct l M_Mo_isTree (d + 1) 0 0 [.ref q, .int x] n (mo q D A S h0) Q := by
  refine Ct.of (fun _ => trivial) (by decide) (Nat.le_of_ble_eq_true rfl) ?_
  refine V.iload_n d_Mo_isTree_0 rfl ?_
  refine V.i2l d_Mo_isTree_1 ?_
  refine V.lconst_ ((nI 0).toInt64) d_Mo_isTree_2 (by decide +kernel) ?_
  refine V.aload_n d_Mo_isTree_3 rfl ?_
  refine V.get d_Mo_isTree_4 f_Mo_7_Mo mo_o rfl ?_
  refine V.iconst_ (nI 0) d_Mo_isTree_7 (by decide +kernel) ?_
  refine V.mldd d_Mo_isTree_8 (by omega) ?_
  refine V.iconst_ (nI 1) d_Mo_isTree_9 (by decide +kernel) ?_
  refine V.isub d_Mo_isTree_10 ?_
  refine V.i2l d_Mo_isTree_11 ?_
  refine V.callS3 d_Mo_isTree_12 k_Mo_56_Mo_inS (Nat.le_of_ble_eq_true rfl) (by omega) (by omega) (c_Mo_in ?_)
  refine V.bret d_Mo_isTree_15 rfl (Nat.le_of_ble_eq_true rfl) (Nat.le_of_ble_eq_true rfl) ?_
  exact hQ
abbrev M_Mo_isPerson : MD := (⟨"FelledByNamesModel", "isPerson", "(I)Z"⟩, prog_14_method_7_code, 1, (some .boolean), fun _ => True)
theorem d_Mo_isPerson_0 : decode prog_14_method_7_code 0 = .ok (.iload_n 0, 1) := by decide +kernel
theorem d_Mo_isPerson_1 : decode prog_14_method_7_code 1 = .ok (.i2l, 1) := by decide +kernel
theorem d_Mo_isPerson_2 : decode prog_14_method_7_code 2 = .ok (.lconst 0, 1) := by decide +kernel
theorem d_Mo_isPerson_3 : decode prog_14_method_7_code 3 = .ok (.ldc2_w 60, 3) := by decide +kernel
theorem d_Mo_isPerson_6 : decode prog_14_method_7_code 6 = .ok (.invokestatic 56, 3) := by decide +kernel
theorem d_Mo_isPerson_9 : decode prog_14_method_7_code 9 = .ok (.ireturn, 1) := by decide +kernel
set_option maxRecDepth 100000 in
theorem c_Mo_isPerson {x : Int32} {l : Launch} {d n : Nat} {h : HP} {Q : QT} (hQ : Q (some (.int (bi (wi x (nI 0) (nI 5))))) n h) : Ct l M_Mo_isPerson (d + 1) 0 0 [.int x] n h Q := by
  refine Ct.of (fun _ => trivial) (by decide) (Nat.le_of_ble_eq_true rfl) ?_
  refine V.iload_n d_Mo_isPerson_0 rfl ?_
  refine V.i2l d_Mo_isPerson_1 ?_
  refine V.lconst_ ((nI 0).toInt64) d_Mo_isPerson_2 (by decide +kernel) ?_
  refine V.ldc2 (v := 5) d_Mo_isPerson_3 (tm 1238 (by decide +kernel) rfl) ?_
  refine V.eqS (st' := .long ((nI 5).toInt64) :: _) rfl ?_
  refine V.callS3 d_Mo_isPerson_6 k_Mo_56_Mo_inS (Nat.le_of_ble_eq_true rfl) (by omega) (by omega) (c_Mo_in ?_)
  refine V.bret d_Mo_isPerson_9 rfl (Nat.le_of_ble_eq_true rfl) (Nat.le_of_ble_eq_true rfl) ?_
  exact hQ
abbrev M_Mo_areTwo : MD := (⟨"FelledByNamesModel", "areTwo", "(II)Z"⟩, prog_14_method_8_code, 2, (some .boolean), fun _ => True)
theorem d_Mo_areTwo_0 : decode prog_14_method_8_code 0 = .ok (.iload_n 0, 1) := by decide +kernel
theorem d_Mo_areTwo_1 : decode prog_14_method_8_code 1 = .ok (.invokestatic 62, 3) := by decide +kernel
theorem kB_Mo_isPerson : kB M_Mo_isPerson 1 := ⟨tm 15 (by decide +kernel) rfl, tm 1237 (by decide +kernel) rfl, ⟨by decide, by decide, by decide +kernel⟩, by decide⟩
theorem k_Mo_62_Mo_isPersonS : kS "FelledByNamesModel" 62 M_Mo_isPerson 1 := ⟨kB_Mo_isPerson, tm 1235 (by decide +kernel) rfl, tm 1236 (by decide +kernel) rfl⟩
theorem d_Mo_areTwo_4 : decode prog_14_method_8_code 4 = .ok (.ifCond .eq 19, 3) := by decide +kernel
theorem d_Mo_areTwo_23 : decode prog_14_method_8_code 23 = .ok (.iconst 0, 1) := by decide +kernel
theorem d_Mo_areTwo_24 : decode prog_14_method_8_code 24 = .ok (.ireturn, 1) := by decide +kernel
theorem d_Mo_areTwo_7 : decode prog_14_method_8_code 7 = .ok (.iload_n 1, 1) := by decide +kernel
theorem d_Mo_areTwo_8 : decode prog_14_method_8_code 8 = .ok (.invokestatic 62, 3) := by decide +kernel
theorem d_Mo_areTwo_11 : decode prog_14_method_8_code 11 = .ok (.ifCond .eq 12, 3) := by decide +kernel
theorem d_Mo_areTwo_14 : decode prog_14_method_8_code 14 = .ok (.iload_n 0, 1) := by decide +kernel
theorem d_Mo_areTwo_15 : decode prog_14_method_8_code 15 = .ok (.iload_n 1, 1) := by decide +kernel
theorem d_Mo_areTwo_16 : decode prog_14_method_8_code 16 = .ok (.if_icmp .eq 7, 3) := by decide +kernel
theorem d_Mo_areTwo_19 : decode prog_14_method_8_code 19 = .ok (.iconst 1, 1) := by decide +kernel
theorem d_Mo_areTwo_20 : decode prog_14_method_8_code 20 = .ok (.goto 4, 3) := by decide +kernel
set_option maxRecDepth 100000 in
theorem c_Mo_areTwo {x y : Int32} {l : Launch} {d n : Nat} {h : HP} {Q : QT} (hQ : Q (some (.int (bi (two x y)))) n h) : Ct l M_Mo_areTwo (d + 2) 0 0 [.int x, .int y] n h Q := by
  refine Ct.of (fun _ => trivial) (by decide) (Nat.le_of_ble_eq_true rfl) ?_
  refine V.iload_n d_Mo_areTwo_0 rfl ?_
  refine V.callS1 d_Mo_areTwo_1 k_Mo_62_Mo_isPersonS (Nat.le_of_ble_eq_true rfl) (by omega) (by omega) (c_Mo_isPerson ?_)
  refine V.ifeqB (tgt := 23) d_Mo_areTwo_4 (by decide) (fun c_4 => ?_) (fun c_4 => ?_)
  · skip
    refine V.iconst_ (nI 0) d_Mo_areTwo_23 (by decide +kernel) ?_
    refine V.zret d_Mo_areTwo_24 rfl rfl (Nat.le_of_ble_eq_true rfl) (Nat.le_of_ble_eq_true rfl) ?_
    unfold two at hQ
    first | (rw [c_4, c_11, decide_eq_false c_16] at hQ; exact hQ) | (rw [c_4, c_11, decide_eq_true c_16] at hQ; exact hQ) | (rw [c_4, c_11] at hQ; exact hQ) | (rw [c_4] at hQ; exact hQ)
  · skip
    refine V.iload_n d_Mo_areTwo_7 rfl ?_
    refine V.callS1 d_Mo_areTwo_8 k_Mo_62_Mo_isPersonS (Nat.le_of_ble_eq_true rfl) (by omega) (by omega) (c_Mo_isPerson ?_)
    refine V.ifeqB (tgt := 23) d_Mo_areTwo_11 (by decide) (fun c_11 => ?_) (fun c_11 => ?_)
    · skip
      refine V.iconst_ (nI 0) d_Mo_areTwo_23 (by decide +kernel) ?_
      refine V.zret d_Mo_areTwo_24 rfl rfl (Nat.le_of_ble_eq_true rfl) (Nat.le_of_ble_eq_true rfl) ?_
      unfold two at hQ
      first | (rw [c_4, c_11, decide_eq_false c_16] at hQ; exact hQ) | (rw [c_4, c_11, decide_eq_true c_16] at hQ; exact hQ) | (rw [c_4, c_11] at hQ; exact hQ) | (rw [c_4] at hQ; exact hQ)
    · skip
      refine V.iload_n d_Mo_areTwo_14 rfl ?_
      refine V.iload_n d_Mo_areTwo_15 rfl ?_
      refine V.icmp_eq (tgt := 23) d_Mo_areTwo_16 (by decide) (fun c_16 => ?_) (fun c_16 => ?_)
      · skip
        refine V.iconst_ (nI 0) d_Mo_areTwo_23 (by decide +kernel) ?_
        refine V.zret d_Mo_areTwo_24 rfl rfl (Nat.le_of_ble_eq_true rfl) (Nat.le_of_ble_eq_true rfl) ?_
        unfold two at hQ
        first | (rw [c_4, c_11, decide_eq_false c_16] at hQ; exact hQ) | (rw [c_4, c_11, decide_eq_true c_16] at hQ; exact hQ) | (rw [c_4, c_11] at hQ; exact hQ) | (rw [c_4] at hQ; exact hQ)
      · skip
        refine V.iconst_ (nI 1) d_Mo_areTwo_19 (by decide +kernel) ?_
        refine V.goto (tgt := 24) d_Mo_areTwo_20 (by decide) ?_
        refine V.zret d_Mo_areTwo_24 rfl rfl (Nat.le_of_ble_eq_true rfl) (Nat.le_of_ble_eq_true rfl) ?_
        unfold two at hQ
        first | (rw [c_4, c_11, decide_eq_false c_16] at hQ; exact hQ) | (rw [c_4, c_11, decide_eq_true c_16] at hQ; exact hQ) | (rw [c_4, c_11] at hQ; exact hQ) | (rw [c_4] at hQ; exact hQ)
abbrev M_Mo_of : MD := (⟨"FelledByNamesModel", "of", "(II)I"⟩, prog_14_method_9_code, 3, (some .int), fun _ => True)
theorem d_Mo_of_0 : decode prog_14_method_9_code 0 = .ok (.aload_n 0, 1) := by decide +kernel
theorem d_Mo_of_1 : decode prog_14_method_9_code 1 = .ok (.getfield 7, 3) := by decide +kernel
theorem d_Mo_of_4 : decode prog_14_method_9_code 4 = .ok (.bipush 50, 2) := by decide +kernel
theorem d_Mo_of_6 : decode prog_14_method_9_code 6 = .ok (.bipush 7, 2) := by decide +kernel
theorem d_Mo_of_8 : decode prog_14_method_9_code 8 = .ok (.iload_n 1, 1) := by decide +kernel
theorem d_Mo_of_9 : decode prog_14_method_9_code 9 = .ok (.imul, 1) := by decide +kernel
theorem d_Mo_of_10 : decode prog_14_method_9_code 10 = .ok (.iadd, 1) := by decide +kernel
theorem d_Mo_of_11 : decode prog_14_method_9_code 11 = .ok (.iload_n 2, 1) := by decide +kernel
theorem d_Mo_of_12 : decode prog_14_method_9_code 12 = .ok (.iadd, 1) := by decide +kernel
theorem d_Mo_of_13 : decode prog_14_method_9_code 13 = .ok (.iaload, 1) := by decide +kernel
theorem d_Mo_of_14 : decode prog_14_method_9_code 14 = .ok (.ireturn, 1) := by decide +kernel
set_option maxRecDepth 100000 in
theorem c_Mo_of {i j : Nat} {l : Launch} {d q n : Nat} {D : Nat → Int32} {A : Nat → Nat → Int32} {S : Nat → Int32} {h0 : HP} {Q : QT} (hi : 50 + 7 * i + j < 278) (hQ : Q (some (.int (D (50 + 7 * i + j)))) n (mo q D A S h0)) : Ct l M_Mo_of d 0 0 [.ref q, .int (nI i), .int (nI j)] n (mo q D A S h0) Q := by
  refine Ct.of (fun _ => trivial) (by decide) (Nat.le_of_ble_eq_true rfl) ?_
  refine V.aload_n d_Mo_of_0 rfl ?_
  refine V.get d_Mo_of_1 f_Mo_7_Mo mo_o rfl ?_
  refine V.bipush_ (nI 50) d_Mo_of_4 (by decide +kernel) ?_
  refine V.bipush_ (nI 7) d_Mo_of_6 (by decide +kernel) ?_
  refine V.iload_n d_Mo_of_8 rfl ?_
  refine V.mulN d_Mo_of_9 ?_
  refine V.addN d_Mo_of_10 ?_
  refine V.iload_n d_Mo_of_11 rfl ?_
  refine V.addN d_Mo_of_12 ?_
  refine V.mldd d_Mo_of_13 (by omega) ?_
  refine V.iret d_Mo_of_14 rfl (Nat.le_of_ble_eq_true rfl) (Nat.le_of_ble_eq_true rfl) ?_
  exact hQ
abbrev M_Mo_sets : MD := (⟨"FelledByNamesModel", "sets", "(III)V"⟩, prog_14_method_10_code, 4, none, fun _ => True)
theorem d_Mo_sets_0 : decode prog_14_method_10_code 0 = .ok (.aload_n 0, 1) := by decide +kernel
theorem d_Mo_sets_1 : decode prog_14_method_10_code 1 = .ok (.getfield 7, 3) := by decide +kernel
theorem d_Mo_sets_4 : decode prog_14_method_10_code 4 = .ok (.bipush 50, 2) := by decide +kernel
theorem d_Mo_sets_6 : decode prog_14_method_10_code 6 = .ok (.bipush 7, 2) := by decide +kernel
theorem d_Mo_sets_8 : decode prog_14_method_10_code 8 = .ok (.iload_n 1, 1) := by decide +kernel
theorem d_Mo_sets_9 : decode prog_14_method_10_code 9 = .ok (.imul, 1) := by decide +kernel
theorem d_Mo_sets_10 : decode prog_14_method_10_code 10 = .ok (.iadd, 1) := by decide +kernel
theorem d_Mo_sets_11 : decode prog_14_method_10_code 11 = .ok (.iload_n 2, 1) := by decide +kernel
theorem d_Mo_sets_12 : decode prog_14_method_10_code 12 = .ok (.iadd, 1) := by decide +kernel
theorem d_Mo_sets_13 : decode prog_14_method_10_code 13 = .ok (.iload_n 3, 1) := by decide +kernel
theorem d_Mo_sets_14 : decode prog_14_method_10_code 14 = .ok (.iastore, 1) := by decide +kernel
theorem d_Mo_sets_15 : decode prog_14_method_10_code 15 = .ok (.return_, 1) := by decide +kernel
set_option maxRecDepth 100000 in
theorem c_Mo_sets {i j : Nat} {x : Int32} {l : Launch} {d q n : Nat} {D : Nat → Int32} {A : Nat → Nat → Int32} {S : Nat → Int32} {h0 : HP} {Q : QT} (hi : 50 + 7 * i + j < 278) (hQ : Q none n (mo q (upd D (50 + 7 * i + j) x) A S h0)) : Ct l M_Mo_sets d 0 0 [.ref q, .int (nI i), .int (nI j), .int x] n (mo q D A S h0) Q := by
  refine Ct.of (fun _ => trivial) (by decide) (Nat.le_of_ble_eq_true rfl) ?_
  refine V.aload_n d_Mo_sets_0 rfl ?_
  refine V.get d_Mo_sets_1 f_Mo_7_Mo mo_o rfl ?_
  refine V.bipush_ (nI 50) d_Mo_sets_4 (by decide +kernel) ?_
  refine V.bipush_ (nI 7) d_Mo_sets_6 (by decide +kernel) ?_
  refine V.iload_n d_Mo_sets_8 rfl ?_
  refine V.mulN d_Mo_sets_9 ?_
  refine V.addN d_Mo_sets_10 ?_
  refine V.iload_n d_Mo_sets_11 rfl ?_
  refine V.addN d_Mo_sets_12 ?_
  refine V.iload_n d_Mo_sets_13 rfl ?_
  refine V.mstd d_Mo_sets_14 (by omega) ?_
  refine V.vret d_Mo_sets_15 rfl (Nat.le_of_ble_eq_true rfl) (Nat.le_of_ble_eq_true rfl) ?_
  exact hQ
abbrev M_Mo_above : MD := (⟨"FelledByNamesModel", "above", "(I)I"⟩, prog_14_method_11_code, 1, (some .int), fun _ => True)
theorem d_Mo_above_0 : decode prog_14_method_11_code 0 = .ok (.iload_n 0, 1) := by decide +kernel
theorem d_Mo_above_1 : decode prog_14_method_11_code 1 = .ok (.iconst 3, 1) := by decide +kernel
theorem d_Mo_above_2 : decode prog_14_method_11_code 2 = .ok (.if_icmp .le 9, 3) := by decide +kernel
theorem d_Mo_above_11 : decode prog_14_method_11_code 11 = .ok (.iconst 0, 1) := by decide +kernel
theorem d_Mo_above_12 : decode prog_14_method_11_code 12 = .ok (.ireturn, 1) := by decide +kernel
theorem d_Mo_above_5 : decode prog_14_method_11_code 5 = .ok (.iload_n 0, 1) := by decide +kernel
theorem d_Mo_above_6 : decode prog_14_method_11_code 6 = .ok (.iconst 3, 1) := by decide +kernel
theorem d_Mo_above_7 : decode prog_14_method_11_code 7 = .ok (.isub, 1) := by decide +kernel
theorem d_Mo_above_8 : decode prog_14_method_11_code 8 = .ok (.goto 4, 3) := by decide +kernel
set_option maxRecDepth 100000 in
theorem c_Mo_above {i : Nat} {l : Launch} {d n : Nat} {h : HP} {Q : QT} (hi : i < 1000) (hQ : Q (some (.int (nI (i - 3)))) n h) : Ct l M_Mo_above d 0 0 [.int (nI i)] n h Q := by
  refine Ct.of (fun _ => trivial) (by decide) (Nat.le_of_ble_eq_true rfl) ?_
  refine V.iload_n d_Mo_above_0 rfl ?_
  refine V.iconst_ (nI 3) d_Mo_above_1 (by decide +kernel) ?_
  refine V.leN (tgt := 11) d_Mo_above_2 (by decide) (by omega) (by omega) (fun c_2 => ?_) (fun c_2 => ?_)
  · skip
    refine V.iconst_ (nI 0) d_Mo_above_11 (by decide +kernel) ?_
    refine V.iret d_Mo_above_12 rfl (Nat.le_of_ble_eq_true rfl) (Nat.le_of_ble_eq_true rfl) ?_
    first | exact hQ | (rw [show i - 3 = 0 by omega] at hQ; exact hQ)
  · skip
    refine V.iload_n d_Mo_above_5 rfl ?_
    refine V.iconst_ (nI 3) d_Mo_above_6 (by decide +kernel) ?_
    refine V.subN d_Mo_above_7 (by omega) ?_
    refine V.goto (tgt := 12) d_Mo_above_8 (by decide) ?_
    refine V.iret d_Mo_above_12 rfl (Nat.le_of_ble_eq_true rfl) (Nat.le_of_ble_eq_true rfl) ?_
    first | exact hQ | (rw [show i - 3 = 0 by omega] at hQ; exact hQ)
abbrev M_Mo_keepAside : MD := (⟨"FelledByNamesModel", "keepAside", "()V"⟩, prog_14_method_12_code, 2, none, fun _ => True)
theorem d_Mo_keepAside_0 : decode prog_14_method_12_code 0 = .ok (.iconst 0, 1) := by decide +kernel
theorem d_Mo_keepAside_1 : decode prog_14_method_12_code 1 = .ok (.istore_n 1, 1) := by decide +kernel
theorem d_Mo_keepAside_2 : decode prog_14_method_12_code 2 = .ok (.iload_n 1, 1) := by decide +kernel
theorem d_Mo_keepAside_3 : decode prog_14_method_12_code 3 = .ok (.bipush 106, 2) := by decide +kernel
theorem d_Mo_keepAside_5 : decode prog_14_method_12_code 5 = .ok (.if_icmp .ge 21, 3) := by decide +kernel
theorem d_Mo_keepAside_8 : decode prog_14_method_12_code 8 = .ok (.aload_n 0, 1) := by decide +kernel
theorem d_Mo_keepAside_9 : decode prog_14_method_12_code 9 = .ok (.getfield 16, 3) := by decide +kernel
theorem f_Mo_16_Mo : fok "FelledByNamesModel" 16 5 2 := ⟨R_Mo, F_Mo, 26, "FelledByNamesModel", rfl, i_Mo, by decide, tm 1061 (by decide +kernel) rfl, Or.inl rfl, t_Mo, t_Mo_ok, n_Mo⟩
theorem d_Mo_keepAside_12 : decode prog_14_method_12_code 12 = .ok (.iload_n 1, 1) := by decide +kernel
theorem d_Mo_keepAside_13 : decode prog_14_method_12_code 13 = .ok (.aload_n 0, 1) := by decide +kernel
theorem d_Mo_keepAside_14 : decode prog_14_method_12_code 14 = .ok (.getfield 7, 3) := by decide +kernel
theorem d_Mo_keepAside_17 : decode prog_14_method_12_code 17 = .ok (.iload_n 1, 1) := by decide +kernel
theorem d_Mo_keepAside_18 : decode prog_14_method_12_code 18 = .ok (.iaload, 1) := by decide +kernel
theorem d_Mo_keepAside_19 : decode prog_14_method_12_code 19 = .ok (.iastore, 1) := by decide +kernel
theorem d_Mo_keepAside_20 : decode prog_14_method_12_code 20 = .ok (.iinc 1 1, 3) := by decide +kernel
theorem d_Mo_keepAside_23 : decode prog_14_method_12_code 23 = .ok (.goto (-21), 3) := by decide +kernel
theorem d_Mo_keepAside_26 : decode prog_14_method_12_code 26 = .ok (.return_, 1) := by decide +kernel
set_option maxRecDepth 100000 in
theorem c_Mo_keepAside {l : Launch} {d q n : Nat} {D : Nat → Int32} {A : Nat → Nat → Int32} {S : Nat → Int32} {h0 : HP} {Q : QT} (hQ : Q none n (mo q D (uA A 2 (cpN 106 D (A 2))) S h0)) : Ct l M_Mo_keepAside d 0 0 [.ref q] n (mo q D A S h0) Q := by
  refine Ct.of (fun _ => trivial) (by decide) (Nat.le_of_ble_eq_true rfl) ?_
  refine V.iconst_ (nI 0) d_Mo_keepAside_0 (by decide +kernel) ?_
  refine V.istore_n d_Mo_keepAside_1 (by decide) ?_
  have hl := up_to (G := fun k => V l M_Mo_keepAside d 0 0 2 [(0, .ref q), (1, .int (nI k))] [] n (mo q D (uA A 2 (cpN k D (A 2))) S h0) 0 0 Q) 106 ?_ (fun k hk hn => ?_) 0 (Nat.zero_le _)
  · rw [cpN_0] at hl
    refine V.lc (ls' := [(0, .ref q), (1, .int (nI 0))]) rfl ?_
    first | exact hl | (refine V.eqH ?_ hl; congr 1; funext j; by_cases hj : j = 2 <;> simp [uA, hj])
  · skip
    refine V.iload_n d_Mo_keepAside_2 rfl ?_
    refine V.bipush_ (nI 106) d_Mo_keepAside_3 (by decide +kernel) ?_
    refine V.geN (tgt := 26) d_Mo_keepAside_5 (by decide) (by omega) (by omega) (fun c_5 => ?_) (fun c_5 => ?_)
    · skip
      refine V.vret d_Mo_keepAside_26 rfl (Nat.le_of_ble_eq_true rfl) (Nat.le_of_ble_eq_true rfl) ?_
      exact hQ
    · skip
      exact absurd c_5 (by omega)
  · skip
    rw [← cpN_s] at hn
    refine V.iload_n d_Mo_keepAside_2 rfl ?_
    refine V.bipush_ (nI 106) d_Mo_keepAside_3 (by decide +kernel) ?_
    refine V.geN (tgt := 26) d_Mo_keepAside_5 (by decide) (by omega) (by omega) (fun c_5 => ?_) (fun c_5 => ?_)
    · skip
      exact absurd c_5 (by omega)
    · skip
      refine V.aload_n d_Mo_keepAside_8 rfl ?_
      refine V.get d_Mo_keepAside_9 f_Mo_16_Mo mo_o rfl ?_
      refine V.iload_n d_Mo_keepAside_12 rfl ?_
      refine V.aload_n d_Mo_keepAside_13 rfl ?_
      refine V.get d_Mo_keepAside_14 f_Mo_7_Mo mo_o rfl ?_
      refine V.iload_n d_Mo_keepAside_17 rfl ?_
      refine V.mldd d_Mo_keepAside_18 (by omega) ?_
      refine V.msta 2 (by decide) (by decide) d_Mo_keepAside_19 (by first | omega | (show _ < 106; omega)) ?_
      refine V.incN d_Mo_keepAside_20 rfl (by decide) ?_
      refine V.goto (tgt := 2) d_Mo_keepAside_23 (by decide) ?_
      try simp only [uA_uu, uA_s]
      exact V.lc rfl (hn)
abbrev M_Mo_putBack : MD := (⟨"FelledByNamesModel", "putBack", "()V"⟩, prog_14_method_13_code, 2, none, fun _ => True)
theorem d_Mo_putBack_0 : decode prog_14_method_13_code 0 = .ok (.iconst 0, 1) := by decide +kernel
theorem d_Mo_putBack_1 : decode prog_14_method_13_code 1 = .ok (.istore_n 1, 1) := by decide +kernel
theorem d_Mo_putBack_2 : decode prog_14_method_13_code 2 = .ok (.iload_n 1, 1) := by decide +kernel
theorem d_Mo_putBack_3 : decode prog_14_method_13_code 3 = .ok (.bipush 106, 2) := by decide +kernel
theorem d_Mo_putBack_5 : decode prog_14_method_13_code 5 = .ok (.if_icmp .ge 21, 3) := by decide +kernel
theorem d_Mo_putBack_8 : decode prog_14_method_13_code 8 = .ok (.aload_n 0, 1) := by decide +kernel
theorem d_Mo_putBack_9 : decode prog_14_method_13_code 9 = .ok (.getfield 7, 3) := by decide +kernel
theorem d_Mo_putBack_12 : decode prog_14_method_13_code 12 = .ok (.iload_n 1, 1) := by decide +kernel
theorem d_Mo_putBack_13 : decode prog_14_method_13_code 13 = .ok (.aload_n 0, 1) := by decide +kernel
theorem d_Mo_putBack_14 : decode prog_14_method_13_code 14 = .ok (.getfield 16, 3) := by decide +kernel
theorem d_Mo_putBack_17 : decode prog_14_method_13_code 17 = .ok (.iload_n 1, 1) := by decide +kernel
theorem d_Mo_putBack_18 : decode prog_14_method_13_code 18 = .ok (.iaload, 1) := by decide +kernel
theorem d_Mo_putBack_19 : decode prog_14_method_13_code 19 = .ok (.iastore, 1) := by decide +kernel
theorem d_Mo_putBack_20 : decode prog_14_method_13_code 20 = .ok (.iinc 1 1, 3) := by decide +kernel
theorem d_Mo_putBack_23 : decode prog_14_method_13_code 23 = .ok (.goto (-21), 3) := by decide +kernel
theorem d_Mo_putBack_26 : decode prog_14_method_13_code 26 = .ok (.return_, 1) := by decide +kernel
set_option maxRecDepth 100000 in
theorem c_Mo_putBack {l : Launch} {d q n : Nat} {D : Nat → Int32} {A : Nat → Nat → Int32} {S : Nat → Int32} {h0 : HP} {Q : QT} (hQ : Q none n (mo q (cpN 106 (A 2) D) A S h0)) : Ct l M_Mo_putBack d 0 0 [.ref q] n (mo q D A S h0) Q := by
  refine Ct.of (fun _ => trivial) (by decide) (Nat.le_of_ble_eq_true rfl) ?_
  refine V.iconst_ (nI 0) d_Mo_putBack_0 (by decide +kernel) ?_
  refine V.istore_n d_Mo_putBack_1 (by decide) ?_
  have hl := up_to (G := fun k => V l M_Mo_putBack d 0 0 2 [(0, .ref q), (1, .int (nI k))] [] n (mo q (cpN k (A 2) D) A S h0) 0 0 Q) 106 ?_ (fun k hk hn => ?_) 0 (Nat.zero_le _)
  · rw [cpN_0] at hl
    refine V.lc (ls' := [(0, .ref q), (1, .int (nI 0))]) rfl ?_
    first | exact hl | (refine V.eqH ?_ hl; congr 1; funext j; by_cases hj : j = 2 <;> simp [uA, hj])
  · skip
    refine V.iload_n d_Mo_putBack_2 rfl ?_
    refine V.bipush_ (nI 106) d_Mo_putBack_3 (by decide +kernel) ?_
    refine V.geN (tgt := 26) d_Mo_putBack_5 (by decide) (by omega) (by omega) (fun c_5 => ?_) (fun c_5 => ?_)
    · skip
      refine V.vret d_Mo_putBack_26 rfl (Nat.le_of_ble_eq_true rfl) (Nat.le_of_ble_eq_true rfl) ?_
      exact hQ
    · skip
      exact absurd c_5 (by omega)
  · skip
    rw [← cpN_s] at hn
    refine V.iload_n d_Mo_putBack_2 rfl ?_
    refine V.bipush_ (nI 106) d_Mo_putBack_3 (by decide +kernel) ?_
    refine V.geN (tgt := 26) d_Mo_putBack_5 (by decide) (by omega) (by omega) (fun c_5 => ?_) (fun c_5 => ?_)
    · skip
      exact absurd c_5 (by omega)
    · skip
      refine V.aload_n d_Mo_putBack_8 rfl ?_
      refine V.get d_Mo_putBack_9 f_Mo_7_Mo mo_o rfl ?_
      refine V.iload_n d_Mo_putBack_12 rfl ?_
      refine V.aload_n d_Mo_putBack_13 rfl ?_
      refine V.get d_Mo_putBack_14 f_Mo_16_Mo mo_o rfl ?_
      refine V.iload_n d_Mo_putBack_17 rfl ?_
      refine V.mlda 2 (by decide) (by decide) d_Mo_putBack_18 (by first | omega | (show _ < 106; omega)) ?_
      refine V.mstd d_Mo_putBack_19 (by omega) ?_
      refine V.incN d_Mo_putBack_20 rfl (by decide) ?_
      refine V.goto (tgt := 2) d_Mo_putBack_23 (by decide) ?_
      try simp only [uA_uu, uA_s]
      exact V.lc rfl (hn)
