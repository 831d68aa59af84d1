theorem gd_at {N j : Nat} {f : Nat → Int32} (hj : j < N) : gd N f j = f j := if_pos hj
def wh (x z : Int32) : Bool := decide (0 ≤ x) && decide (x < z)
def rgt (f : Nat → Int32) (z x : Int32) : Int32 := if wh x z = true then f x.toNatClampNeg else -1
theorem wh_nat {x : Int32} {z : Nat} (hz : z < 2 ^ 31) (h : wh x (nI z) = true) : ∃ i, i < z ∧ x = nI i := by
  unfold wh at h
  simp only [Bool.and_eq_true, decide_eq_true_eq] at h
  obtain ⟨h1, h2⟩ := h
  have h3 : x ≤ nI z := Int32.le_of_lt h2
  obtain ⟨i, hi, rfl⟩ := nI_of2 (nI_toInt hz) (Int32.not_lt.mpr h1) h3
  exact ⟨i, (nI_ltI (by omega) hz).mp h2, rfl⟩
theorem wh_tt {x z : Int32} (h1 : ¬ x < 0) (h2 : ¬ z ≤ x) : wh x z = true := by
  unfold wh; rw [decide_eq_true (Int32.not_lt.mp h1), decide_eq_true (Int32.not_le.mp h2)]; rfl
theorem wh_ff {x z : Int32} (h : z ≤ x) : ¬ wh x z = true := by
  unfold wh; rw [decide_eq_false (fun q => Int32.not_lt.mpr h q), Bool.and_false]; decide
theorem wh_fn {x z : Int32} (h : x < 0) : ¬ wh x z = true := by
  unfold wh; rw [decide_eq_false (fun q => Int32.not_lt.mpr q h), Bool.false_and]; decide
theorem cpy_cpN {f g : Nat → Int32} {k : Nat} : va_cpy f g 0 0 k = cpN k f g := by
  funext j
  unfold va_cpy cpN
  by_cases h : j < k
  · rw [if_pos h]; simp [h]
  · rw [if_neg h]; simp [h]
theorem clamp_hld {v lo hi : Int32} (h : lo ≤ hi) : mx lo (mi hi v) = hld v lo hi := by
  unfold mx mi hld
  by_cases h1 : v < lo
  · rw [if_pos h1, if_pos (Int32.lt_of_lt_of_le h1 h), if_neg (Int32.lt_asymm h1)]
  · rw [if_neg h1]
    by_cases h2 : v < hi
    · rw [if_pos h2, if_neg (Int32.lt_asymm h2)]
      by_cases h3 : lo < v
      · rw [if_pos h3]
      · rw [if_neg h3]; exact Int32.le_antisymm (Int32.not_lt.mp h1) (Int32.not_lt.mp h3)
    · rw [if_neg h2]
      by_cases h3 : hi < v
      · rw [if_pos h3]
        by_cases h4 : lo < hi
        · rw [if_pos h4]
        · rw [if_neg h4]; exact Int32.le_antisymm h (Int32.not_lt.mp h4)
      · rw [if_neg h3]
        have e : v = hi := Int32.le_antisymm (Int32.not_lt.mp h3) (Int32.not_lt.mp h2)
        by_cases h4 : lo < hi
        · rw [if_pos h4, e]
        · rw [if_neg h4, e]; exact Int32.le_antisymm h (Int32.not_lt.mp h4)
abbrev M_F_within : MD := (⟨"FelledByNames", "within", "(II)Z"⟩, prog_1_method_44_code, 2, (some .boolean), fun _ => True)
theorem d_F_within_0 : decode prog_1_method_44_code 0 = .ok (.iload_n 0, 1) := by decide +kernel
theorem d_F_within_1 : decode prog_1_method_44_code 1 = .ok (.ifCond .lt 12, 3) := by decide +kernel
theorem d_F_within_13 : decode prog_1_method_44_code 13 = .ok (.iconst 0, 1) := by decide +kernel
theorem d_F_within_14 : decode prog_1_method_44_code 14 = .ok (.ireturn, 1) := by decide +kernel
theorem d_F_within_4 : decode prog_1_method_44_code 4 = .ok (.iload_n 0, 1) := by decide +kernel
theorem d_F_within_5 : decode prog_1_method_44_code 5 = .ok (.iload_n 1, 1) := by decide +kernel
theorem d_F_within_6 : decode prog_1_method_44_code 6 = .ok (.if_icmp .gt 7, 3) := by decide +kernel
theorem d_F_within_9 : decode prog_1_method_44_code 9 = .ok (.iconst 1, 1) := by decide +kernel
theorem d_F_within_10 : decode prog_1_method_44_code 10 = .ok (.goto 4, 3) := by decide +kernel
set_option maxRecDepth 100000 in
theorem c_F_within {x y : Int32} {l : Launch} {d n : Nat} {h : HP} {Q : QT} (hQ : Q (some (.int (bi (wi x (nI 0) y)))) n h) : Ct l M_F_within d 0 0 [.int x, .int y] n h Q := by
  refine Ct.of (fun _ => trivial) (by decide) (Nat.le_of_ble_eq_true rfl) ?_
  refine V.iload_n d_F_within_0 rfl ?_
  refine V.if_lt (tgt := 13) d_F_within_1 (by decide) (fun c_1 => ?_) (fun c_1 => ?_)
  · skip
    refine V.iconst_ (nI 0) d_F_within_13 (by decide +kernel) ?_
    refine V.zret d_F_within_14 rfl rfl (Nat.le_of_ble_eq_true rfl) (Nat.le_of_ble_eq_true rfl) ?_
    first
    | exact Qb (b' := true) hQ (by unfold wi; rw [decide_eq_true (Int32.not_lt.mp c_1 : nI 0 ≤ x), decide_eq_true (Int32.not_lt.mp c_6)]; rfl)
    | exact Qb (b' := false) hQ (by unfold wi; rw [decide_eq_false (fun z => Int32.not_lt.mpr z c_6), Bool.and_false])
    | exact Qb (b' := false) hQ (by unfold wi; rw [decide_eq_false (fun z => Int32.not_lt.mpr z c_1 : ¬ nI 0 ≤ x), Bool.false_and])
  · skip
    refine V.iload_n d_F_within_4 rfl ?_
    refine V.iload_n d_F_within_5 rfl ?_
    refine V.icmp_gt (tgt := 13) d_F_within_6 (by decide) (fun c_6 => ?_) (fun c_6 => ?_)
    · skip
      refine V.iconst_ (nI 0) d_F_within_13 (by decide +kernel) ?_
      refine V.zret d_F_within_14 rfl rfl (Nat.le_of_ble_eq_true rfl) (Nat.le_of_ble_eq_true rfl) ?_
      first
      | exact Qb (b' := true) hQ (by unfold wi; rw [decide_eq_true (Int32.not_lt.mp c_1 : nI 0 ≤ x), decide_eq_true (Int32.not_lt.mp c_6)]; rfl)
      | exact Qb (b' := false) hQ (by unfold wi; rw [decide_eq_false (fun z => Int32.not_lt.mpr z c_6), Bool.and_false])
      | exact Qb (b' := false) hQ (by unfold wi; rw [decide_eq_false (fun z => Int32.not_lt.mpr z c_1 : ¬ nI 0 ≤ x), Bool.false_and])
    · skip
      refine V.iconst_ (nI 1) d_F_within_9 (by decide +kernel) ?_
      refine V.goto (tgt := 14) d_F_within_10 (by decide) ?_
      refine V.zret d_F_within_14 rfl rfl (Nat.le_of_ble_eq_true rfl) (Nat.le_of_ble_eq_true rfl) ?_
      first
      | exact Qb (b' := true) hQ (by unfold wi; rw [decide_eq_true (Int32.not_lt.mp c_1 : nI 0 ≤ x), decide_eq_true (Int32.not_lt.mp c_6)]; rfl)
      | exact Qb (b' := false) hQ (by unfold wi; rw [decide_eq_false (fun z => Int32.not_lt.mpr z c_6), Bool.and_false])
      | exact Qb (b' := false) hQ (by unfold wi; rw [decide_eq_false (fun z => Int32.not_lt.mpr z c_1 : ¬ nI 0 ≤ x), Bool.false_and])
abbrev M_F_clamp : MD := (⟨"FelledByNames", "clamp", "(III)I"⟩, prog_1_method_45_code, 3, (some .int), fun _ => True)
theorem d_F_clamp_0 : decode prog_1_method_45_code 0 = .ok (.iload_n 1, 1) := by decide +kernel
theorem d_F_clamp_1 : decode prog_1_method_45_code 1 = .ok (.iload_n 2, 1) := by decide +kernel
theorem d_F_clamp_2 : decode prog_1_method_45_code 2 = .ok (.iload_n 0, 1) := by decide +kernel
theorem d_F_clamp_3 : decode prog_1_method_45_code 3 = .ok (.invokestatic 255, 3) := by decide +kernel
theorem d_F_clamp_6 : decode prog_1_method_45_code 6 = .ok (.invokestatic 323, 3) := by decide +kernel
theorem d_F_clamp_9 : decode prog_1_method_45_code 9 = .ok (.ireturn, 1) := by decide +kernel
set_option maxRecDepth 100000 in
theorem c_F_clamp {v lo hi : Int32} {l : Launch} {d n : Nat} {h : HP} {Q : QT} (hl : lo ≤ hi) (hQ : Q (some (.int (hld v lo hi))) n h) : Ct l M_F_clamp (d + 1) 0 0 [.int v, .int lo, .int hi] n h Q := by
  refine Ct.of (fun _ => trivial) (by decide) (Nat.le_of_ble_eq_true rfl) ?_
  refine V.iload_n d_F_clamp_0 rfl ?_
  refine V.iload_n d_F_clamp_1 rfl ?_
  refine V.iload_n d_F_clamp_2 rfl ?_
  refine V.mmin d_F_clamp_3 (tm 725 (by decide +kernel) rfl) (Nat.le_of_ble_eq_true rfl) (by omega) (by omega) ?_
  refine V.mmax d_F_clamp_6 (tm 726 (by decide +kernel) rfl) (Nat.le_of_ble_eq_true rfl) (by omega) (by omega) ?_
  refine V.iret d_F_clamp_9 rfl (Nat.le_of_ble_eq_true rfl) (Nat.le_of_ble_eq_true rfl) ?_
  rw [clamp_hld hl]
  exact hQ
abbrev M_F_areTwo : MD := (⟨"FelledByNames", "areTwo", "(II)Z"⟩, prog_1_method_46_code, 2, (some .boolean), fun _ => True)
theorem d_F_areTwo_0 : decode prog_1_method_46_code 0 = .ok (.iload_n 0, 1) := by decide +kernel
theorem d_F_areTwo_1 : decode prog_1_method_46_code 1 = .ok (.iconst 5, 1) := by decide +kernel
theorem d_F_areTwo_2 : decode prog_1_method_46_code 2 = .ok (.invokestatic 94, 3) := by decide +kernel
theorem kB_F_within : kB M_F_within 2 := ⟨tm 1 (by decide +kernel) rfl, tm 479 (by decide +kernel) rfl, ⟨by decide, by decide, by decide +kernel⟩, by decide⟩
theorem k_F_94_F_withinS : kS "FelledByNames" 94 M_F_within 2 := ⟨kB_F_within, tm 477 (by decide +kernel) rfl, tm 478 (by decide +kernel) rfl⟩
theorem d_F_areTwo_5 : decode prog_1_method_46_code 5 = .ok (.ifCond .eq 20, 3) := by decide +kernel
theorem d_F_areTwo_25 : decode prog_1_method_46_code 25 = .ok (.iconst 0, 1) := by decide +kernel
theorem d_F_areTwo_26 : decode prog_1_method_46_code 26 = .ok (.ireturn, 1) := by decide +kernel
theorem d_F_areTwo_8 : decode prog_1_method_46_code 8 = .ok (.iload_n 1, 1) := by decide +kernel
theorem d_F_areTwo_9 : decode prog_1_method_46_code 9 = .ok (.iconst 5, 1) := by decide +kernel
theorem d_F_areTwo_10 : decode prog_1_method_46_code 10 = .ok (.invokestatic 94, 3) := by decide +kernel
theorem d_F_areTwo_13 : decode prog_1_method_46_code 13 = .ok (.ifCond .eq 12, 3) := by decide +kernel
theorem d_F_areTwo_16 : decode prog_1_method_46_code 16 = .ok (.iload_n 0, 1) := by decide +kernel
theorem d_F_areTwo_17 : decode prog_1_method_46_code 17 = .ok (.iload_n 1, 1) := by decide +kernel
theorem d_F_areTwo_18 : decode prog_1_method_46_code 18 = .ok (.if_icmp .eq 7, 3) := by decide +kernel
theorem d_F_areTwo_21 : decode prog_1_method_46_code 21 = .ok (.iconst 1, 1) := by decide +kernel
theorem d_F_areTwo_22 : decode prog_1_method_46_code 22 = .ok (.goto 4, 3) := by decide +kernel
set_option maxRecDepth 100000 in
theorem c_F_areTwo {x y : Int32} {l : Launch} {d n : Nat} {h : HP} {Q : QT} (hQ : Q (some (.int (bi (two x y)))) n h) : Ct l M_F_areTwo (d + 1) 0 0 [.int x, .int y] n h Q := by
  refine Ct.of (fun _ => trivial) (by decide) (Nat.le_of_ble_eq_true rfl) ?_
  refine V.iload_n d_F_areTwo_0 rfl ?_
  refine V.iconst_ (nI 5) d_F_areTwo_1 (by decide +kernel) ?_
  refine V.callS2 d_F_areTwo_2 k_F_94_F_withinS (Nat.le_of_ble_eq_true rfl) (by omega) (by omega) (c_F_within ?_)
  refine V.ifeqB (tgt := 25) d_F_areTwo_5 (by decide) (fun c_5 => ?_) (fun c_5 => ?_)
  · skip
    refine V.iconst_ (nI 0) d_F_areTwo_25 (by decide +kernel) ?_
    refine V.zret d_F_areTwo_26 rfl rfl (Nat.le_of_ble_eq_true rfl) (Nat.le_of_ble_eq_true rfl) ?_
    unfold two at hQ
    first | (rw [c_5, c_13, decide_eq_false c_18] at hQ; exact hQ) | (rw [c_5, c_13, decide_eq_true c_18] at hQ; exact hQ) | (rw [c_5, c_13] at hQ; exact hQ) | (rw [c_5] at hQ; exact hQ)
  · skip
    refine V.iload_n d_F_areTwo_8 rfl ?_
    refine V.iconst_ (nI 5) d_F_areTwo_9 (by decide +kernel) ?_
    refine V.callS2 d_F_areTwo_10 k_F_94_F_withinS (Nat.le_of_ble_eq_true rfl) (by omega) (by omega) (c_F_within ?_)
    refine V.ifeqB (tgt := 25) d_F_areTwo_13 (by decide) (fun c_13 => ?_) (fun c_13 => ?_)
    · skip
      refine V.iconst_ (nI 0) d_F_areTwo_25 (by decide +kernel) ?_
      refine V.zret d_F_areTwo_26 rfl rfl (Nat.le_of_ble_eq_true rfl) (Nat.le_of_ble_eq_true rfl) ?_
      unfold two at hQ
      first | (rw [c_5, c_13, decide_eq_false c_18] at hQ; exact hQ) | (rw [c_5, c_13, decide_eq_true c_18] at hQ; exact hQ) | (rw [c_5, c_13] at hQ; exact hQ) | (rw [c_5] at hQ; exact hQ)
    · skip
      refine V.iload_n d_F_areTwo_16 rfl ?_
      refine V.iload_n d_F_areTwo_17 rfl ?_
      refine V.icmp_eq (tgt := 25) d_F_areTwo_18 (by decide) (fun c_18 => ?_) (fun c_18 => ?_)
      · skip
        refine V.iconst_ (nI 0) d_F_areTwo_25 (by decide +kernel) ?_
        refine V.zret d_F_areTwo_26 rfl rfl (Nat.le_of_ble_eq_true rfl) (Nat.le_of_ble_eq_true rfl) ?_
        unfold two at hQ
        first | (rw [c_5, c_13, decide_eq_false c_18] at hQ; exact hQ) | (rw [c_5, c_13, decide_eq_true c_18] at hQ; exact hQ) | (rw [c_5, c_13] at hQ; exact hQ) | (rw [c_5] at hQ; exact hQ)
      · skip
        refine V.iconst_ (nI 1) d_F_areTwo_21 (by decide +kernel) ?_
        refine V.goto (tgt := 26) d_F_areTwo_22 (by decide) ?_
        refine V.zret d_F_areTwo_26 rfl rfl (Nat.le_of_ble_eq_true rfl) (Nat.le_of_ble_eq_true rfl) ?_
        unfold two at hQ
        first | (rw [c_5, c_13, decide_eq_false c_18] at hQ; exact hQ) | (rw [c_5, c_13, decide_eq_true c_18] at hQ; exact hQ) | (rw [c_5, c_13] at hQ; exact hQ) | (rw [c_5] at hQ; exact hQ)
abbrev M_F_cell : MD := (⟨"FelledByNames", "cell", "(II)I"⟩, prog_1_method_47_code, 2, (some .int), fun _ => True)
theorem d_F_cell_0 : decode prog_1_method_47_code 0 = .ok (.iload_n 0, 1) := by decide +kernel
theorem d_F_cell_1 : decode prog_1_method_47_code 1 = .ok (.bipush 6, 2) := by decide +kernel
theorem d_F_cell_3 : decode prog_1_method_47_code 3 = .ok (.imul, 1) := by decide +kernel
theorem d_F_cell_4 : decode prog_1_method_47_code 4 = .ok (.iload_n 1, 1) := by decide +kernel
theorem d_F_cell_5 : decode prog_1_method_47_code 5 = .ok (.iadd, 1) := by decide +kernel
theorem d_F_cell_6 : decode prog_1_method_47_code 6 = .ok (.ireturn, 1) := by decide +kernel
set_option maxRecDepth 100000 in
theorem c_F_cell {a b : Nat} {l : Launch} {d n : Nat} {h : HP} {Q : QT} (hQ : Q (some (.int (nI (a * 6 + b)))) n h) : Ct l M_F_cell d 0 0 [.int (nI a), .int (nI b)] n h Q := by
  refine Ct.of (fun _ => trivial) (by decide) (Nat.le_of_ble_eq_true rfl) ?_
  refine V.iload_n d_F_cell_0 rfl ?_
  refine V.bipush_ (nI 6) d_F_cell_1 (by decide +kernel) ?_
  refine V.mulN d_F_cell_3 ?_
  refine V.iload_n d_F_cell_4 rfl ?_
  refine V.addN d_F_cell_5 ?_
  refine V.iret d_F_cell_6 rfl (Nat.le_of_ble_eq_true rfl) (Nat.le_of_ble_eq_true rfl) ?_
  exact hQ
abbrev M_F_isSheet : MD := (⟨"FelledByNames", "isSheet", "(I)Z"⟩, prog_1_method_48_code, 1, (some .boolean), fun _ => True)
theorem d_F_isSheet_0 : decode prog_1_method_48_code 0 = .ok (.iload_n 0, 1) := by decide +kernel
theorem d_F_isSheet_1 : decode prog_1_method_48_code 1 = .ok (.iconst 3, 1) := by decide +kernel
theorem d_F_isSheet_2 : decode prog_1_method_48_code 2 = .ok (.invokestatic 94, 3) := by decide +kernel
theorem d_F_isSheet_5 : decode prog_1_method_48_code 5 = .ok (.ireturn, 1) := by decide +kernel
set_option maxRecDepth 100000 in
theorem c_F_isSheet {x : Int32} {l : Launch} {d n : Nat} {h : HP} {Q : QT} (hQ : Q (some (.int (bi (wi x (nI 0) (nI 3))))) n h) : Ct l M_F_isSheet (d + 1) 0 0 [.int x] n h Q := by
  refine Ct.of (fun _ => trivial) (by decide) (Nat.le_of_ble_eq_true rfl) ?_
  refine V.iload_n d_F_isSheet_0 rfl ?_
  refine V.iconst_ (nI 3) d_F_isSheet_1 (by decide +kernel) ?_
  refine V.callS2 d_F_isSheet_2 k_F_94_F_withinS (Nat.le_of_ble_eq_true rfl) (by omega) (by omega) (c_F_within ?_)
  refine V.bret d_F_isSheet_5 rfl (Nat.le_of_ble_eq_true rfl) (Nat.le_of_ble_eq_true rfl) ?_
  exact hQ
abbrev M_F_isTree : MD := (⟨"FelledByNames", "isTree", "(I)Z"⟩, prog_1_method_49_code, 2, (some .boolean), fun _ => True)
theorem d_F_isTree_0 : decode prog_1_method_49_code 0 = .ok (.iload_n 1, 1) := by decide +kernel
theorem d_F_isTree_1 : decode prog_1_method_49_code 1 = .ok (.aload_n 0, 1) := by decide +kernel
theorem d_F_isTree_2 : decode prog_1_method_49_code 2 = .ok (.getfield 39, 3) := by decide +kernel
theorem f_F_39_F : fok "FelledByNames" 39 0 3 := ⟨R_F, F_F, 15, "FelledByNames", rfl, i_F, by decide, tm 427 (by decide +kernel) rfl, Or.inl rfl, t_F, t_F_ok, n_F⟩
theorem d_F_isTree_5 : decode prog_1_method_49_code 5 = .ok (.getfield 121, 3) := by decide +kernel
theorem f_F_121_World : fok "FelledByNames" 121 4 5 := ⟨R_World, F_World, 14, "FelledByNames$World", rfl, i_World, by decide, tm 184 (by decide +kernel) rfl, Or.inl rfl, t_World, t_World_ok, n_World⟩
theorem d_F_isTree_8 : decode prog_1_method_49_code 8 = .ok (.iconst 1, 1) := by decide +kernel
theorem d_F_isTree_9 : decode prog_1_method_49_code 9 = .ok (.isub, 1) := by decide +kernel
theorem d_F_isTree_10 : decode prog_1_method_49_code 10 = .ok (.invokestatic 94, 3) := by decide +kernel
theorem d_F_isTree_13 : decode prog_1_method_49_code 13 = .ok (.ireturn, 1) := by decide +kernel
set_option maxRecDepth 100000 in
theorem c_F_isTree {x : Int32} {l : Launch} {d n : Nat} {R W Z : Nat → Nat → Int32} {T : Nat → Nat → Nat} {kn : Kn} {h0 : HP} {Q : QT} (hQ : Q (some (.int (bi (wi x (nI 0) (W 0 0 - nI 1))))) n (co R W Z T kn h0)) : Ct l M_F_isTree (d + 1) 0 0 [.ref 0, .int x] n (co R W Z T kn h0) Q := by
  refine Ct.of (fun _ => trivial) (by decide) (Nat.le_of_ble_eq_true rfl) ?_
  refine V.iload_n d_F_isTree_0 rfl ?_
  refine V.aload_n d_F_isTree_1 rfl ?_
  refine V.get d_F_isTree_2 f_F_39_F (co_s sc_ob) rfl ?_
  refine V.get d_F_isTree_5 f_F_121_World (co_s (sc_wd (wb_ds 0 (by decide)).1)) rfl ?_
  refine V.iconst_ (nI 1) d_F_isTree_8 (by decide +kernel) ?_
  refine V.isub d_F_isTree_9 ?_
  refine V.callS2 d_F_isTree_10 k_F_94_F_withinS (Nat.le_of_ble_eq_true rfl) (by omega) (by omega) (c_F_within ?_)
  refine V.bret d_F_isTree_13 rfl (Nat.le_of_ble_eq_true rfl) (Nat.le_of_ble_eq_true rfl) ?_
  exact hQ
abbrev M_F_error : MD := (⟨"FelledByNames", "error", "(I)I"⟩, prog_1_method_43_code, 2, (some .int), fun _ => True)
theorem d_F_error_0 : decode prog_1_method_43_code 0 = .ok (.iload_n 1, 1) := by decide +kernel
theorem d_F_error_1 : decode prog_1_method_43_code 1 = .ok (.iconst 5, 1) := by decide +kernel
theorem d_F_error_2 : decode prog_1_method_43_code 2 = .ok (.invokestatic 94, 3) := by decide +kernel
theorem d_F_error_5 : decode prog_1_method_43_code 5 = .ok (.ifCond .eq 13, 3) := by decide +kernel
theorem d_F_error_18 : decode prog_1_method_43_code 18 = .ok (.ldc_w 322, 3) := by decide +kernel
theorem d_F_error_21 : decode prog_1_method_43_code 21 = .ok (.iload_n 1, 1) := by decide +kernel
theorem d_F_error_22 : decode prog_1_method_43_code 22 = .ok (.isub, 1) := by decide +kernel
theorem d_F_error_23 : decode prog_1_method_43_code 23 = .ok (.ireturn, 1) := by decide +kernel
theorem d_F_error_8 : decode prog_1_method_43_code 8 = .ok (.aload_n 0, 1) := by decide +kernel
theorem d_F_error_9 : decode prog_1_method_43_code 9 = .ok (.getfield 58, 3) := by decide +kernel
theorem f_F_58_F : fok "FelledByNames" 58 0 8 := ⟨R_F, F_F, 15, "FelledByNames", rfl, i_F, by decide, tm 432 (by decide +kernel) rfl, Or.inl rfl, t_F, t_F_ok, n_F⟩
theorem d_F_error_12 : decode prog_1_method_43_code 12 = .ok (.iload_n 1, 1) := by decide +kernel
theorem d_F_error_13 : decode prog_1_method_43_code 13 = .ok (.dup2, 1) := by decide +kernel
theorem d_F_error_14 : decode prog_1_method_43_code 14 = .ok (.iaload, 1) := by decide +kernel
theorem d_F_error_15 : decode prog_1_method_43_code 15 = .ok (.iconst 1, 1) := by decide +kernel
theorem d_F_error_16 : decode prog_1_method_43_code 16 = .ok (.iadd, 1) := by decide +kernel
theorem d_F_error_17 : decode prog_1_method_43_code 17 = .ok (.iastore, 1) := by decide +kernel
set_option maxRecDepth 100000 in
theorem c_F_error {k : Nat} {l : Launch} {d n : Nat} {R W Z : Nat → Nat → Int32} {T : Nat → Nat → Nat} {kn : Kn} {h0 : HP} {Q : QT} (hk : k ≤ 5) (hQ : Q (some (.int (-1000000000 - nI k))) n (co (uA R 54 (upd (R 54) k (R 54 k + nI 1))) W Z T kn h0)) : Ct l M_F_error (d + 1) 0 0 [.ref 0, .int (nI k)] n (co R W Z T kn h0) Q := by
  refine Ct.of (fun _ => trivial) (by decide) (Nat.le_of_ble_eq_true rfl) ?_
  refine V.iload_n d_F_error_0 rfl ?_
  refine V.iconst_ (nI 5) d_F_error_1 (by decide +kernel) ?_
  refine V.callS2 d_F_error_2 k_F_94_F_withinS (Nat.le_of_ble_eq_true rfl) (by omega) (by omega) (c_F_within ?_)
  refine V.ifeqB (tgt := 18) d_F_error_5 (by decide) (fun c_5 => ?_) (fun c_5 => ?_)
  · skip
    refine V.ldcw (v := -1000000000) d_F_error_18 (tm 484 (by decide +kernel) rfl) ?_
    refine V.iload_n d_F_error_21 rfl ?_
    refine V.isub d_F_error_22 ?_
    refine V.iret d_F_error_23 rfl (Nat.le_of_ble_eq_true rfl) (Nat.le_of_ble_eq_true rfl) ?_
    first | exact hQ | exact absurd c_5 (by rw [wi_ofN (by decide) (by omega) (by decide), decide_eq_true (Nat.zero_le _), decide_eq_true hk]; decide)
  · skip
    refine V.aload_n d_F_error_8 rfl ?_
    refine V.get d_F_error_9 f_F_58_F (co_s sc_ob) rfl ?_
    refine V.iload_n d_F_error_12 rfl ?_
    refine V.dup2 rfl rfl d_F_error_13 ?_
    refine V.ialdN d_F_error_14 (co_s (sc_ar rfl)) (by omega) (by omega) ?_
    refine V.iconst_ (nI 1) d_F_error_15 (by decide +kernel) ?_
    refine V.iadd d_F_error_16 ?_
    refine V.iastN d_F_error_17 (co_s (sc_ar rfl)) (by omega) (by omega) ?_
    refine V.eqH (co_uR rfl) ?_
    refine V.ldcw (v := -1000000000) d_F_error_18 (tm 484 (by decide +kernel) rfl) ?_
    refine V.iload_n d_F_error_21 rfl ?_
    refine V.isub d_F_error_22 ?_
    refine V.iret d_F_error_23 rfl (Nat.le_of_ble_eq_true rfl) (Nat.le_of_ble_eq_true rfl) ?_
    first | exact hQ | exact absurd c_5 (by rw [wi_ofN (by decide) (by omega) (by decide), decide_eq_true (Nat.zero_le _), decide_eq_true hk]; decide)
abbrev M_Row_has : MD := (⟨"FelledByNames$Row", "has", "(I)Z"⟩, prog_6_method_2_code, 2, (some .boolean), fun _ => True)
theorem d_Row_has_0 : decode prog_6_method_2_code 0 = .ok (.iload_n 1, 1) := by decide +kernel
theorem d_Row_has_1 : decode prog_6_method_2_code 1 = .ok (.ifCond .lt 15, 3) := by decide +kernel
theorem d_Row_has_16 : decode prog_6_method_2_code 16 = .ok (.iconst 0, 1) := by decide +kernel
theorem d_Row_has_17 : decode prog_6_method_2_code 17 = .ok (.ireturn, 1) := by decide +kernel
theorem d_Row_has_4 : decode prog_6_method_2_code 4 = .ok (.iload_n 1, 1) := by decide +kernel
theorem d_Row_has_5 : decode prog_6_method_2_code 5 = .ok (.aload_n 0, 1) := by decide +kernel
theorem d_Row_has_6 : decode prog_6_method_2_code 6 = .ok (.getfield 7, 3) := by decide +kernel
theorem f_Row_7_Row : fok "FelledByNames$Row" 7 1 1 := ⟨R_Row, F_Row, 2, "FelledByNames$Row", rfl, i_Row, by decide, tm 46 (by decide +kernel) rfl, Or.inl rfl, t_Row, t_Row_ok, n_Row⟩
theorem d_Row_has_9 : decode prog_6_method_2_code 9 = .ok (.if_icmp .ge 7, 3) := by decide +kernel
theorem d_Row_has_12 : decode prog_6_method_2_code 12 = .ok (.iconst 1, 1) := by decide +kernel
theorem d_Row_has_13 : decode prog_6_method_2_code 13 = .ok (.goto 4, 3) := by decide +kernel
set_option maxRecDepth 100000 in
theorem c_Row_has {a N sz : Nat} {x : Int32} {l : Launch} {d n : Nat} {R W Z : Nat → Nat → Int32} {T : Nat → Nat → Nat} {kn : Kn} {h0 : HP} {Q : QT} (hd : ds a = Ds.rw) (hd1 : ds (a + 1) = Ds.ar N) (hz : Z a 1 = nI sz) (hN : sz ≤ N) (hN9 : N < 1000) (hQ : Q (some (.int (bi (wh x (nI sz))))) n (co R W Z T kn h0)) : Ct l M_Row_has d 0 0 [.ref a, .int x] n (co R W Z T kn h0) Q := by
  refine Ct.of (fun _ => trivial) (by decide) (Nat.le_of_ble_eq_true rfl) ?_
  refine V.iload_n d_Row_has_0 rfl ?_
  refine V.if_lt (tgt := 16) d_Row_has_1 (by decide) (fun c_1 => ?_) (fun c_1 => ?_)
  · skip
    refine V.iconst_ (nI 0) d_Row_has_16 (by decide +kernel) ?_
    refine V.zret d_Row_has_17 rfl rfl (Nat.le_of_ble_eq_true rfl) (Nat.le_of_ble_eq_true rfl) ?_
    first
    | exact Qb (b' := true) hQ (by unfold wh; rw [decide_eq_true (Int32.not_lt.mp c_1), decide_eq_true (Int32.not_le.mp c_9)]; rfl)
    | exact Qb (b' := false) hQ (by unfold wh; rw [decide_eq_false (fun z => Int32.not_lt.mpr c_9 z), Bool.and_false])
    | exact Qb (b' := false) hQ (by unfold wh; rw [decide_eq_false (fun z => Int32.not_lt.mpr z c_1), Bool.false_and])
  · skip
    refine V.iload_n d_Row_has_4 rfl ?_
    refine V.aload_n d_Row_has_5 rfl ?_
    refine V.get d_Row_has_6 f_Row_7_Row (co_s (sc_rw hd)) rfl ?_
    refine V.top hz ?_
    refine V.icmp_ge (tgt := 16) d_Row_has_9 (by decide) (fun c_9 => ?_) (fun c_9 => ?_)
    · skip
      refine V.iconst_ (nI 0) d_Row_has_16 (by decide +kernel) ?_
      refine V.zret d_Row_has_17 rfl rfl (Nat.le_of_ble_eq_true rfl) (Nat.le_of_ble_eq_true rfl) ?_
      first
      | exact Qb (b' := true) hQ (by unfold wh; rw [decide_eq_true (Int32.not_lt.mp c_1), decide_eq_true (Int32.not_le.mp c_9)]; rfl)
      | exact Qb (b' := false) hQ (by unfold wh; rw [decide_eq_false (fun z => Int32.not_lt.mpr c_9 z), Bool.and_false])
      | exact Qb (b' := false) hQ (by unfold wh; rw [decide_eq_false (fun z => Int32.not_lt.mpr z c_1), Bool.false_and])
    · skip
      refine V.iconst_ (nI 1) d_Row_has_12 (by decide +kernel) ?_
      refine V.goto (tgt := 17) d_Row_has_13 (by decide) ?_
      refine V.zret d_Row_has_17 rfl rfl (Nat.le_of_ble_eq_true rfl) (Nat.le_of_ble_eq_true rfl) ?_
      first
      | exact Qb (b' := true) hQ (by unfold wh; rw [decide_eq_true (Int32.not_lt.mp c_1), decide_eq_true (Int32.not_le.mp c_9)]; rfl)
      | exact Qb (b' := false) hQ (by unfold wh; rw [decide_eq_false (fun z => Int32.not_lt.mpr c_9 z), Bool.and_false])
      | exact Qb (b' := false) hQ (by unfold wh; rw [decide_eq_false (fun z => Int32.not_lt.mpr z c_1), Bool.false_and])
abbrev M_Row_get : MD := (⟨"FelledByNames$Row", "get", "(I)I"⟩, prog_6_method_3_code, 2, (some .int), fun _ => True)
theorem d_Row_get_0 : decode prog_6_method_3_code 0 = .ok (.iload_n 1, 1) := by decide +kernel
theorem d_Row_get_1 : decode prog_6_method_3_code 1 = .ok (.ifCond .lt 20, 3) := by decide +kernel
theorem d_Row_get_21 : decode prog_6_method_3_code 21 = .ok (.iconst (-1), 1) := by decide +kernel
theorem d_Row_get_22 : decode prog_6_method_3_code 22 = .ok (.ireturn, 1) := by decide +kernel
theorem d_Row_get_4 : decode prog_6_method_3_code 4 = .ok (.iload_n 1, 1) := by decide +kernel
theorem d_Row_get_5 : decode prog_6_method_3_code 5 = .ok (.aload_n 0, 1) := by decide +kernel
theorem d_Row_get_6 : decode prog_6_method_3_code 6 = .ok (.getfield 7, 3) := by decide +kernel
theorem d_Row_get_9 : decode prog_6_method_3_code 9 = .ok (.if_icmp .ge 12, 3) := by decide +kernel
theorem d_Row_get_12 : decode prog_6_method_3_code 12 = .ok (.aload_n 0, 1) := by decide +kernel
theorem d_Row_get_13 : decode prog_6_method_3_code 13 = .ok (.getfield 19, 3) := by decide +kernel
theorem f_Row_19_Row : fok "FelledByNames$Row" 19 1 0 := ⟨R_Row, F_Row, 2, "FelledByNames$Row", rfl, i_Row, by decide, tm 40 (by decide +kernel) rfl, Or.inl rfl, t_Row, t_Row_ok, n_Row⟩
theorem d_Row_get_16 : decode prog_6_method_3_code 16 = .ok (.iload_n 1, 1) := by decide +kernel
theorem d_Row_get_17 : decode prog_6_method_3_code 17 = .ok (.iaload, 1) := by decide +kernel
theorem d_Row_get_18 : decode prog_6_method_3_code 18 = .ok (.goto 4, 3) := by decide +kernel
set_option maxRecDepth 100000 in
theorem c_Row_get {a N sz : Nat} {x : Int32} {l : Launch} {d n : Nat} {R W Z : Nat → Nat → Int32} {T : Nat → Nat → Nat} {kn : Kn} {h0 : HP} {Q : QT} (hd : ds a = Ds.rw) (hd1 : ds (a + 1) = Ds.ar N) (hz : Z a 1 = nI sz) (hN : sz ≤ N) (hN9 : N < 1000) (hQ : Q (some (.int (rgt (R (a + 1)) (nI sz) x))) n (co R W Z T kn h0)) : Ct l M_Row_get (d + 1) 0 0 [.ref a, .int x] n (co R W Z T kn h0) Q := by
  refine Ct.of (fun _ => trivial) (by decide) (Nat.le_of_ble_eq_true rfl) ?_
  refine V.iload_n d_Row_get_0 rfl ?_
  refine V.if_lt (tgt := 21) d_Row_get_1 (by decide) (fun c_1 => ?_) (fun c_1 => ?_)
  · skip
    refine V.iconst_ (-1) d_Row_get_21 (by decide +kernel) ?_
    refine V.iret d_Row_get_22 rfl (Nat.le_of_ble_eq_true rfl) (Nat.le_of_ble_eq_true rfl) ?_
    unfold rgt at hQ
    first | (rw [if_pos (wh_tt c_1 c_9)] at hQ; exact hQ) | (rw [if_neg (wh_ff c_9)] at hQ; exact hQ) | (rw [if_neg (wh_fn c_1)] at hQ; exact hQ)
  · skip
    refine V.iload_n d_Row_get_4 rfl ?_
    refine V.aload_n d_Row_get_5 rfl ?_
    refine V.get d_Row_get_6 f_Row_7_Row (co_s (sc_rw hd)) rfl ?_
    refine V.top hz ?_
    refine V.icmp_ge (tgt := 21) d_Row_get_9 (by decide) (fun c_9 => ?_) (fun c_9 => ?_)
    · skip
      refine V.iconst_ (-1) d_Row_get_21 (by decide +kernel) ?_
      refine V.iret d_Row_get_22 rfl (Nat.le_of_ble_eq_true rfl) (Nat.le_of_ble_eq_true rfl) ?_
      unfold rgt at hQ
      first | (rw [if_pos (wh_tt c_1 c_9)] at hQ; exact hQ) | (rw [if_neg (wh_ff c_9)] at hQ; exact hQ) | (rw [if_neg (wh_fn c_1)] at hQ; exact hQ)
    · skip
      refine V.aload_n d_Row_get_12 rfl ?_
      refine V.get d_Row_get_13 f_Row_19_Row (co_s (sc_rw hd)) rfl ?_
      refine V.iload_n d_Row_get_16 rfl ?_
      refine V.iald d_Row_get_17 (co_s (sc_ar hd1)) (by obtain ⟨j, hj, rfl⟩ := wh_nat (by omega) (wh_tt c_1 c_9); exact vp_in_nI (by omega) (by omega)) ?_
      refine V.goto (tgt := 22) d_Row_get_18 (by decide) ?_
      refine V.iret d_Row_get_22 rfl (Nat.le_of_ble_eq_true rfl) (Nat.le_of_ble_eq_true rfl) ?_
      unfold rgt at hQ
      first | (rw [if_pos (wh_tt c_1 c_9)] at hQ; exact hQ) | (rw [if_neg (wh_ff c_9)] at hQ; exact hQ) | (rw [if_neg (wh_fn c_1)] at hQ; exact hQ)
theorem f_Row_7_Sheet : fok "FelledByNames$Row" 7 2 1 := ⟨R_Sheet, F_Sheet, 3, "FelledByNames$Row", rfl, i_Sheet, by decide, tm 46 (by decide +kernel) rfl, Or.inl rfl, t_Sheet, t_Sheet_ok, n_Sheet⟩
set_option maxRecDepth 100000 in
theorem c_Sheet_has {a sz : Nat} {x : Int32} {l : Launch} {d n : Nat} {R W Z : Nat → Nat → Int32} {T : Nat → Nat → Nat} {kn : Kn} {h0 : HP} {Q : QT} (hd : ds a = Ds.sh) (hd1 : ds (a + 1) = Ds.ar 40) (hz : Z a 1 = nI sz) (hN : sz ≤ 40) (hQ : Q (some (.int (bi (wh x (nI sz))))) n (co R W Z T kn h0)) : Ct l M_Row_has d 0 0 [.ref a, .int x] n (co R W Z T kn h0) Q := by
  refine Ct.of (fun _ => trivial) (by decide) (Nat.le_of_ble_eq_true rfl) ?_
  refine V.iload_n d_Row_has_0 rfl ?_
  refine V.if_lt (tgt := 16) d_Row_has_1 (by decide) (fun c_1 => ?_) (fun c_1 => ?_)
  · skip
    refine V.iconst_ (nI 0) d_Row_has_16 (by decide +kernel) ?_
    refine V.zret d_Row_has_17 rfl rfl (Nat.le_of_ble_eq_true rfl) (Nat.le_of_ble_eq_true rfl) ?_
    first
    | exact Qb (b' := true) hQ (by unfold wh; rw [decide_eq_true (Int32.not_lt.mp c_1), decide_eq_true (Int32.not_le.mp c_9)]; rfl)
    | exact Qb (b' := false) hQ (by unfold wh; rw [decide_eq_false (fun z => Int32.not_lt.mpr c_9 z), Bool.and_false])
    | exact Qb (b' := false) hQ (by unfold wh; rw [decide_eq_false (fun z => Int32.not_lt.mpr z c_1), Bool.false_and])
  · skip
    refine V.iload_n d_Row_has_4 rfl ?_
    refine V.aload_n d_Row_has_5 rfl ?_
    refine V.get d_Row_has_6 f_Row_7_Sheet (co_s (sc_sh hd)) rfl ?_
    refine V.top hz ?_
    refine V.icmp_ge (tgt := 16) d_Row_has_9 (by decide) (fun c_9 => ?_) (fun c_9 => ?_)
    · skip
      refine V.iconst_ (nI 0) d_Row_has_16 (by decide +kernel) ?_
      refine V.zret d_Row_has_17 rfl rfl (Nat.le_of_ble_eq_true rfl) (Nat.le_of_ble_eq_true rfl) ?_
      first
      | exact Qb (b' := true) hQ (by unfold wh; rw [decide_eq_true (Int32.not_lt.mp c_1), decide_eq_true (Int32.not_le.mp c_9)]; rfl)
      | exact Qb (b' := false) hQ (by unfold wh; rw [decide_eq_false (fun z => Int32.not_lt.mpr c_9 z), Bool.and_false])
      | exact Qb (b' := false) hQ (by unfold wh; rw [decide_eq_false (fun z => Int32.not_lt.mpr z c_1), Bool.false_and])
    · skip
      refine V.iconst_ (nI 1) d_Row_has_12 (by decide +kernel) ?_
      refine V.goto (tgt := 17) d_Row_has_13 (by decide) ?_
      refine V.zret d_Row_has_17 rfl rfl (Nat.le_of_ble_eq_true rfl) (Nat.le_of_ble_eq_true rfl) ?_
      first
      | exact Qb (b' := true) hQ (by unfold wh; rw [decide_eq_true (Int32.not_lt.mp c_1), decide_eq_true (Int32.not_le.mp c_9)]; rfl)
      | exact Qb (b' := false) hQ (by unfold wh; rw [decide_eq_false (fun z => Int32.not_lt.mpr c_9 z), Bool.and_false])
      | exact Qb (b' := false) hQ (by unfold wh; rw [decide_eq_false (fun z => Int32.not_lt.mpr z c_1), Bool.false_and])
theorem f_Row_19_Sheet : fok "FelledByNames$Row" 19 2 0 := ⟨R_Sheet, F_Sheet, 3, "FelledByNames$Row", rfl, i_Sheet, by decide, tm 40 (by decide +kernel) rfl, Or.inl rfl, t_Sheet, t_Sheet_ok, n_Sheet⟩
set_option maxRecDepth 100000 in
theorem c_Sheet_get {a sz : Nat} {x : Int32} {l : Launch} {d n : Nat} {R W Z : Nat → Nat → Int32} {T : Nat → Nat → Nat} {kn : Kn} {h0 : HP} {Q : QT} (hd : ds a = Ds.sh) (hd1 : ds (a + 1) = Ds.ar 40) (hz : Z a 1 = nI sz) (hN : sz ≤ 40) (hQ : Q (some (.int (rgt (R (a + 1)) (nI sz) x))) n (co R W Z T kn h0)) : Ct l M_Row_get (d + 1) 0 0 [.ref a, .int x] n (co R W Z T kn h0) Q := by
  refine Ct.of (fun _ => trivial) (by decide) (Nat.le_of_ble_eq_true rfl) ?_
  refine V.iload_n d_Row_get_0 rfl ?_
  refine V.if_lt (tgt := 21) d_Row_get_1 (by decide) (fun c_1 => ?_) (fun c_1 => ?_)
  · skip
    refine V.iconst_ (-1) d_Row_get_21 (by decide +kernel) ?_
    refine V.iret d_Row_get_22 rfl (Nat.le_of_ble_eq_true rfl) (Nat.le_of_ble_eq_true rfl) ?_
    unfold rgt at hQ
    first | (rw [if_pos (wh_tt c_1 c_9)] at hQ; exact hQ) | (rw [if_neg (wh_ff c_9)] at hQ; exact hQ) | (rw [if_neg (wh_fn c_1)] at hQ; exact hQ)
  · skip
    refine V.iload_n d_Row_get_4 rfl ?_
    refine V.aload_n d_Row_get_5 rfl ?_
    refine V.get d_Row_get_6 f_Row_7_Sheet (co_s (sc_sh hd)) rfl ?_
    refine V.top hz ?_
    refine V.icmp_ge (tgt := 21) d_Row_get_9 (by decide) (fun c_9 => ?_) (fun c_9 => ?_)
    · skip
      refine V.iconst_ (-1) d_Row_get_21 (by decide +kernel) ?_
      refine V.iret d_Row_get_22 rfl (Nat.le_of_ble_eq_true rfl) (Nat.le_of_ble_eq_true rfl) ?_
      unfold rgt at hQ
      first | (rw [if_pos (wh_tt c_1 c_9)] at hQ; exact hQ) | (rw [if_neg (wh_ff c_9)] at hQ; exact hQ) | (rw [if_neg (wh_fn c_1)] at hQ; exact hQ)
    · skip
      refine V.aload_n d_Row_get_12 rfl ?_
      refine V.get d_Row_get_13 f_Row_19_Sheet (co_s (sc_sh hd)) rfl ?_
      refine V.iload_n d_Row_get_16 rfl ?_
      refine V.iald d_Row_get_17 (co_s (sc_ar hd1)) (by obtain ⟨j, hj, rfl⟩ := wh_nat (by omega) (wh_tt c_1 c_9); exact vp_in_nI (by omega) (by omega)) ?_
      refine V.goto (tgt := 22) d_Row_get_18 (by decide) ?_
      refine V.iret d_Row_get_22 rfl (Nat.le_of_ble_eq_true rfl) (Nat.le_of_ble_eq_true rfl) ?_
      unfold rgt at hQ
      first | (rw [if_pos (wh_tt c_1 c_9)] at hQ; exact hQ) | (rw [if_neg (wh_ff c_9)] at hQ; exact hQ) | (rw [if_neg (wh_fn c_1)] at hQ; exact hQ)
abbrev M_Row_add : MD := (⟨"FelledByNames$Row", "add", "(I)V"⟩, prog_6_method_4_code, 2, none, fun _ => True)
theorem d_Row_add_0 : decode prog_6_method_4_code 0 = .ok (.aload_n 0, 1) := by decide +kernel
theorem d_Row_add_1 : decode prog_6_method_4_code 1 = .ok (.getfield 7, 3) := by decide +kernel
theorem d_Row_add_4 : decode prog_6_method_4_code 4 = .ok (.aload_n 0, 1) := by decide +kernel
theorem d_Row_add_5 : decode prog_6_method_4_code 5 = .ok (.getfield 19, 3) := by decide +kernel
theorem d_Row_add_8 : decode prog_6_method_4_code 8 = .ok (.arraylength, 1) := by decide +kernel
theorem d_Row_add_9 : decode prog_6_method_4_code 9 = .ok (.if_icmp .ge 23, 3) := by decide +kernel
theorem d_Row_add_32 : decode prog_6_method_4_code 32 = .ok (.return_, 1) := by decide +kernel
theorem d_Row_add_12 : decode prog_6_method_4_code 12 = .ok (.aload_n 0, 1) := by decide +kernel
theorem d_Row_add_13 : decode prog_6_method_4_code 13 = .ok (.getfield 19, 3) := by decide +kernel
theorem d_Row_add_16 : decode prog_6_method_4_code 16 = .ok (.aload_n 0, 1) := by decide +kernel
theorem d_Row_add_17 : decode prog_6_method_4_code 17 = .ok (.getfield 7, 3) := by decide +kernel
theorem d_Row_add_20 : decode prog_6_method_4_code 20 = .ok (.iload_n 1, 1) := by decide +kernel
theorem d_Row_add_21 : decode prog_6_method_4_code 21 = .ok (.iastore, 1) := by decide +kernel
theorem d_Row_add_22 : decode prog_6_method_4_code 22 = .ok (.aload_n 0, 1) := by decide +kernel
theorem d_Row_add_23 : decode prog_6_method_4_code 23 = .ok (.dup, 1) := by decide +kernel
theorem d_Row_add_24 : decode prog_6_method_4_code 24 = .ok (.getfield 7, 3) := by decide +kernel
theorem d_Row_add_27 : decode prog_6_method_4_code 27 = .ok (.iconst 1, 1) := by decide +kernel
theorem d_Row_add_28 : decode prog_6_method_4_code 28 = .ok (.iadd, 1) := by decide +kernel
theorem d_Row_add_29 : decode prog_6_method_4_code 29 = .ok (.putfield 7, 3) := by decide +kernel
theorem fp_Row_1 : fpk 1 1 (.int) := ⟨_, _, _, rfl, rfl, by decide +kernel⟩
set_option maxRecDepth 100000 in
theorem c_Row_add {a N sz : Nat} {x : Int32} {l : Launch} {d n : Nat} {R W Z : Nat → Nat → Int32} {T : Nat → Nat → Nat} {kn : Kn} {h0 : HP} {Q : QT} (hd : ds a = Ds.rw) (hd1 : ds (a + 1) = Ds.ar N) (hz : Z a 1 = nI sz) (hN : sz ≤ N) (hN9 : N < 1000) (h1 : sz < N → Q none n (co (uA R (a + 1) (upd (R (a + 1)) sz x)) W (uZ Z a 1 (nI (sz + 1))) T kn h0)) (h2 : N ≤ sz → Q none n (co R W Z T kn h0)) : Ct l M_Row_add d 0 0 [.ref a, .int x] n (co R W Z T kn h0) Q := by
  refine Ct.of (fun _ => trivial) (by decide) (Nat.le_of_ble_eq_true rfl) ?_
  refine V.aload_n d_Row_add_0 rfl ?_
  refine V.get d_Row_add_1 f_Row_7_Row (co_s (sc_rw hd)) rfl ?_
  refine V.top (y := nI (sz)) hz ?_
  refine V.aload_n d_Row_add_4 rfl ?_
  refine V.get d_Row_add_5 f_Row_19_Row (co_s (sc_rw hd)) rfl ?_
  refine V.alen d_Row_add_8 (co_s (sc_ar hd1)) (by decide) ?_
  refine V.geN (tgt := 32) d_Row_add_9 (by decide) (by omega) (by omega) (fun c_9 => ?_) (fun c_9 => ?_)
  · skip
    refine V.vret d_Row_add_32 rfl (Nat.le_of_ble_eq_true rfl) (Nat.le_of_ble_eq_true rfl) ?_
    first | exact h1 c_9 | exact h2 c_9
  · skip
    refine V.aload_n d_Row_add_12 rfl ?_
    refine V.get d_Row_add_13 f_Row_19_Row (co_s (sc_rw hd)) rfl ?_
    refine V.aload_n d_Row_add_16 rfl ?_
    refine V.get d_Row_add_17 f_Row_7_Row (co_s (sc_rw hd)) rfl ?_
    refine V.top (y := nI (sz)) hz ?_
    refine V.iload_n d_Row_add_20 rfl ?_
    refine V.iastN d_Row_add_21 (co_s (sc_ar hd1)) (by omega) (by omega) ?_
    refine V.eqH (co_uR hd1) ?_
    refine V.aload_n d_Row_add_22 rfl ?_
    refine V.dup rfl d_Row_add_23 ?_
    refine V.get d_Row_add_24 f_Row_7_Row (co_s (sc_rw hd)) rfl ?_
    refine V.top (y := nI (sz)) hz ?_
    refine V.iconst_ (nI 1) d_Row_add_27 (by decide +kernel) ?_
    refine V.addN d_Row_add_28 ?_
    refine V.put d_Row_add_29 f_Row_7_Row fp_Row_1 (fun _ => rfl) (fun _ => rfl) (co_s (sc_rw hd)) (Nat.le_of_ble_eq_true rfl) ?_
    refine V.eqH (co_urw hd) ?_
    refine V.vret d_Row_add_32 rfl (Nat.le_of_ble_eq_true rfl) (Nat.le_of_ble_eq_true rfl) ?_
    first | exact h1 c_9 | exact h2 c_9
abbrev M_Row_clear : MD := (⟨"FelledByNames$Row", "clear", "()V"⟩, prog_6_method_5_code, 1, none, fun _ => True)
theorem d_Row_clear_0 : decode prog_6_method_5_code 0 = .ok (.aload_n 0, 1) := by decide +kernel
theorem d_Row_clear_1 : decode prog_6_method_5_code 1 = .ok (.iconst 0, 1) := by decide +kernel
theorem d_Row_clear_2 : decode prog_6_method_5_code 2 = .ok (.putfield 7, 3) := by decide +kernel
theorem d_Row_clear_5 : decode prog_6_method_5_code 5 = .ok (.return_, 1) := by decide +kernel
set_option maxRecDepth 100000 in
theorem c_Row_clear {a : Nat} {l : Launch} {d n : Nat} {R W Z : Nat → Nat → Int32} {T : Nat → Nat → Nat} {kn : Kn} {h0 : HP} {Q : QT} (hd : ds a = Ds.rw) (hQ : Q none n (co R W (uZ Z a 1 (nI 0)) T kn h0)) : Ct l M_Row_clear d 0 0 [.ref a] n (co R W Z T kn h0) Q := by
  refine Ct.of (fun _ => trivial) (by decide) (Nat.le_of_ble_eq_true rfl) ?_
  refine V.aload_n d_Row_clear_0 rfl ?_
  refine V.iconst_ (nI 0) d_Row_clear_1 (by decide +kernel) ?_
  refine V.put d_Row_clear_2 f_Row_7_Row fp_Row_1 (fun _ => rfl) (fun _ => rfl) (co_s (sc_rw hd)) (Nat.le_of_ble_eq_true rfl) ?_
  refine V.eqH (co_urw hd) ?_
  refine V.vret d_Row_clear_5 rfl (Nat.le_of_ble_eq_true rfl) (Nat.le_of_ble_eq_true rfl) ?_
  exact hQ
abbrev M_Row_takeFrom : MD := (⟨"FelledByNames$Row", "takeFrom", "(LFelledByNames$Row;)V"⟩, prog_6_method_6_code, 2, none, fun _ => True)
theorem d_Row_takeFrom_0 : decode prog_6_method_6_code 0 = .ok (.aload_n 0, 1) := by decide +kernel
theorem d_Row_takeFrom_1 : decode prog_6_method_6_code 1 = .ok (.aload_n 1, 1) := by decide +kernel
theorem d_Row_takeFrom_2 : decode prog_6_method_6_code 2 = .ok (.getfield 7, 3) := by decide +kernel
theorem d_Row_takeFrom_5 : decode prog_6_method_6_code 5 = .ok (.aload_n 0, 1) := by decide +kernel
theorem d_Row_takeFrom_6 : decode prog_6_method_6_code 6 = .ok (.getfield 19, 3) := by decide +kernel
theorem d_Row_takeFrom_9 : decode prog_6_method_6_code 9 = .ok (.arraylength, 1) := by decide +kernel
theorem d_Row_takeFrom_10 : decode prog_6_method_6_code 10 = .ok (.invokestatic 23, 3) := by decide +kernel
theorem d_Row_takeFrom_13 : decode prog_6_method_6_code 13 = .ok (.putfield 7, 3) := by decide +kernel
theorem d_Row_takeFrom_16 : decode prog_6_method_6_code 16 = .ok (.aload_n 1, 1) := by decide +kernel
theorem d_Row_takeFrom_17 : decode prog_6_method_6_code 17 = .ok (.getfield 19, 3) := by decide +kernel
theorem d_Row_takeFrom_20 : decode prog_6_method_6_code 20 = .ok (.iconst 0, 1) := by decide +kernel
theorem d_Row_takeFrom_21 : decode prog_6_method_6_code 21 = .ok (.aload_n 0, 1) := by decide +kernel
theorem d_Row_takeFrom_22 : decode prog_6_method_6_code 22 = .ok (.getfield 19, 3) := by decide +kernel
theorem d_Row_takeFrom_25 : decode prog_6_method_6_code 25 = .ok (.iconst 0, 1) := by decide +kernel
theorem d_Row_takeFrom_26 : decode prog_6_method_6_code 26 = .ok (.aload_n 0, 1) := by decide +kernel
theorem d_Row_takeFrom_27 : decode prog_6_method_6_code 27 = .ok (.getfield 7, 3) := by decide +kernel
theorem d_Row_takeFrom_30 : decode prog_6_method_6_code 30 = .ok (.invokestatic 26, 3) := by decide +kernel
theorem d_Row_takeFrom_33 : decode prog_6_method_6_code 33 = .ok (.return_, 1) := by decide +kernel
set_option maxRecDepth 100000 in
theorem c_Row_takeFrom {a b N N2 sz : Nat} {l : Launch} {d n : Nat} {R W Z : Nat → Nat → Int32} {T : Nat → Nat → Nat} {kn : Kn} {h0 : HP} {Q : QT} (hd : ds a = Ds.rw) (hd1 : ds (a + 1) = Ds.ar N) (gd0 : ds b = Ds.rw) (gd1 : ds (b + 1) = Ds.ar N2) (hab : a ≠ b) (hz : Z b 1 = nI sz) (hN : sz ≤ N) (hN2 : sz ≤ N2) (hN9 : N < 1000) (hN29 : N2 < 1000) (hQ : Q none n (co (uA R (a + 1) (cpN sz (R (b + 1)) (R (a + 1)))) W (uZ Z a 1 (nI sz)) T kn h0)) : Ct l M_Row_takeFrom (d + 1) 0 0 [.ref a, .ref b] n (co R W Z T kn h0) Q := by
  refine Ct.of (fun _ => trivial) (by decide) (Nat.le_of_ble_eq_true rfl) ?_
  refine V.aload_n d_Row_takeFrom_0 rfl ?_
  refine V.aload_n d_Row_takeFrom_1 rfl ?_
  refine V.get d_Row_takeFrom_2 f_Row_7_Row (co_s (sc_rw gd0)) rfl ?_
  refine V.top hz ?_
  refine V.aload_n d_Row_takeFrom_5 rfl ?_
  refine V.get d_Row_takeFrom_6 f_Row_19_Row (co_s (sc_rw hd)) rfl ?_
  refine V.alen d_Row_takeFrom_9 (co_s (sc_ar hd1)) (by decide) ?_
  refine V.mmin d_Row_takeFrom_10 (tm 400 (by decide +kernel) rfl) (Nat.le_of_ble_eq_true rfl) (by omega) (by omega) ?_
  refine V.top (y := nI sz) (by unfold mi; rw [if_neg (Int32.not_lt.mpr ((nI_leI (by omega) (by omega)).mpr hN))]) ?_
  refine V.put d_Row_takeFrom_13 f_Row_7_Row fp_Row_1 (fun _ => rfl) (fun _ => rfl) (co_s (sc_rw hd)) (Nat.le_of_ble_eq_true rfl) ?_
  refine V.eqH (co_urw hd) ?_
  refine V.aload_n d_Row_takeFrom_16 rfl ?_
  refine V.get d_Row_takeFrom_17 f_Row_19_Row (co_s (sc_rw gd0)) rfl ?_
  refine V.iconst_ (nI 0) d_Row_takeFrom_20 (by decide +kernel) ?_
  refine V.aload_n d_Row_takeFrom_21 rfl ?_
  refine V.get d_Row_takeFrom_22 f_Row_19_Row (co_s (sc_rw hd)) rfl ?_
  refine V.iconst_ (nI 0) d_Row_takeFrom_25 (by decide +kernel) ?_
  refine V.aload_n d_Row_takeFrom_26 rfl ?_
  refine V.get d_Row_takeFrom_27 f_Row_7_Row (co_s (sc_rw hd)) rfl ?_
  rw [uZ_s]
  refine V.copy d_Row_takeFrom_30 (tm 401 (by decide +kernel) rfl) (co_s (sc_ar gd1)) (co_s (sc_ar hd1)) (by decide) (by decide) (Int32.not_lt.mpr ((nI_leI (a := 0) (by decide) (by omega)).mpr (Nat.zero_le _))) (by rw [icl (i := sz) (by omega), icl (i := 0) (by decide)]; omega) (by rw [icl (i := sz) (by omega), icl (i := 0) (by decide)]; omega) (Nat.le_of_ble_eq_true rfl) ?_
  rw [icl (i := sz) (by omega), icl (i := 0) (by decide), cpy_cpN]
  refine V.eqH (co_uR hd1) ?_
  refine V.vret d_Row_takeFrom_33 rfl (Nat.le_of_ble_eq_true rfl) (Nat.le_of_ble_eq_true rfl) ?_
  exact hQ
abbrev M_Sheet_isMissing : MD := (⟨"FelledByNames$Sheet", "isMissing", "()Z"⟩, prog_8_method_2_code, 1, (some .boolean), fun _ => True)
theorem d_Sheet_isMissing_0 : decode prog_8_method_2_code 0 = .ok (.aload_n 0, 1) := by decide +kernel
theorem d_Sheet_isMissing_1 : decode prog_8_method_2_code 1 = .ok (.getfield 9, 3) := by decide +kernel
theorem f_Sheet_9_Sheet : fok "FelledByNames$Sheet" 9 2 2 := ⟨R_Sheet, F_Sheet, 3, "FelledByNames$Sheet", rfl, i_Sheet, by decide, tm 417 (by decide +kernel) rfl, Or.inl rfl, t_Sheet, t_Sheet_ok, n_Sheet⟩
theorem d_Sheet_isMissing_4 : decode prog_8_method_2_code 4 = .ok (.ifCond .ne 7, 3) := by decide +kernel
theorem d_Sheet_isMissing_11 : decode prog_8_method_2_code 11 = .ok (.iconst 0, 1) := by decide +kernel
theorem d_Sheet_isMissing_12 : decode prog_8_method_2_code 12 = .ok (.ireturn, 1) := by decide +kernel
theorem d_Sheet_isMissing_7 : decode prog_8_method_2_code 7 = .ok (.iconst 1, 1) := by decide +kernel
theorem d_Sheet_isMissing_8 : decode prog_8_method_2_code 8 = .ok (.goto 4, 3) := by decide +kernel
set_option maxRecDepth 100000 in
theorem c_Sheet_isMissing {a : Nat} {l : Launch} {d n : Nat} {R W Z : Nat → Nat → Int32} {T : Nat → Nat → Nat} {kn : Kn} {h0 : HP} {Q : QT} (hd : ds a = Ds.sh) (hQ : Q (some (.int (bi (decide (Z a 2 = 0))))) n (co R W Z T kn h0)) : Ct l M_Sheet_isMissing d 0 0 [.ref a] n (co R W Z T kn h0) Q := by
  refine Ct.of (fun _ => trivial) (by decide) (Nat.le_of_ble_eq_true rfl) ?_
  refine V.aload_n d_Sheet_isMissing_0 rfl ?_
  refine V.get d_Sheet_isMissing_1 f_Sheet_9_Sheet (co_s (sc_sh hd)) rfl ?_
  refine V.if_ne (tgt := 11) d_Sheet_isMissing_4 (by decide) (fun c_4 => ?_) (fun c_4 => ?_)
  · skip
    refine V.iconst_ (nI 0) d_Sheet_isMissing_11 (by decide +kernel) ?_
    refine V.zret d_Sheet_isMissing_12 rfl rfl (Nat.le_of_ble_eq_true rfl) (Nat.le_of_ble_eq_true rfl) ?_
    first | exact Qb (b' := true) hQ (decide_eq_true c_4) | exact Qb (b' := false) hQ (decide_eq_false c_4)
  · skip
    refine V.iconst_ (nI 1) d_Sheet_isMissing_7 (by decide +kernel) ?_
    refine V.goto (tgt := 12) d_Sheet_isMissing_8 (by decide) ?_
    refine V.zret d_Sheet_isMissing_12 rfl rfl (Nat.le_of_ble_eq_true rfl) (Nat.le_of_ble_eq_true rfl) ?_
    first | exact Qb (b' := true) hQ (decide_eq_true c_4) | exact Qb (b' := false) hQ (decide_eq_false c_4)
abbrev M_Sheet_renew : MD := (⟨"FelledByNames$Sheet", "renew", "(II)V"⟩, prog_8_method_3_code, 3, none, fun _ => True)
theorem d_Sheet_renew_0 : decode prog_8_method_3_code 0 = .ok (.aload_n 0, 1) := by decide +kernel
theorem d_Sheet_renew_1 : decode prog_8_method_3_code 1 = .ok (.iload_n 1, 1) := by decide +kernel
theorem d_Sheet_renew_2 : decode prog_8_method_3_code 2 = .ok (.putfield 9, 3) := by decide +kernel
theorem fp_Sheet_2 : fpk 2 2 (.int) := ⟨_, _, _, rfl, rfl, by decide +kernel⟩
theorem d_Sheet_renew_5 : decode prog_8_method_3_code 5 = .ok (.aload_n 0, 1) := by decide +kernel
theorem d_Sheet_renew_6 : decode prog_8_method_3_code 6 = .ok (.iload_n 2, 1) := by decide +kernel
theorem d_Sheet_renew_7 : decode prog_8_method_3_code 7 = .ok (.iconst 0, 1) := by decide +kernel
theorem d_Sheet_renew_8 : decode prog_8_method_3_code 8 = .ok (.bipush 40, 2) := by decide +kernel
theorem d_Sheet_renew_10 : decode prog_8_method_3_code 10 = .ok (.invokestatic 15, 3) := by decide +kernel
theorem kB_F_clamp : kB M_F_clamp 3 := ⟨tm 1 (by decide +kernel) rfl, tm 724 (by decide +kernel) rfl, ⟨by decide, by decide, by decide +kernel⟩, by decide⟩
theorem k_Sheet_15_F_clampSN : kSN "FelledByNames$Sheet" 15 M_F_clamp 3 := ⟨kB_F_clamp, ⟨"FelledByNames", List.mem_of_getElem? (i := 5) rfl⟩, tm 723 (by decide +kernel) rfl⟩
theorem d_Sheet_renew_13 : decode prog_8_method_3_code 13 = .ok (.putfield 19, 3) := by decide +kernel
theorem f_Sheet_19_Sheet : fok "FelledByNames$Sheet" 19 2 1 := ⟨R_Sheet, F_Sheet, 3, "FelledByNames$Sheet", rfl, i_Sheet, by decide, tm 47 (by decide +kernel) rfl, Or.inr (tm 48 (by decide +kernel) rfl), t_Sheet, t_Sheet_ok, n_Sheet⟩
theorem fp_Sheet_1 : fpk 2 1 (.int) := ⟨_, _, _, rfl, rfl, by decide +kernel⟩
theorem d_Sheet_renew_16 : decode prog_8_method_3_code 16 = .ok (.aload_n 0, 1) := by decide +kernel
theorem d_Sheet_renew_17 : decode prog_8_method_3_code 17 = .ok (.getfield 22, 3) := by decide +kernel
theorem f_Sheet_22_Sheet : fok "FelledByNames$Sheet" 22 2 0 := ⟨R_Sheet, F_Sheet, 3, "FelledByNames$Sheet", rfl, i_Sheet, by decide, tm 41 (by decide +kernel) rfl, Or.inr (tm 42 (by decide +kernel) rfl), t_Sheet, t_Sheet_ok, n_Sheet⟩
theorem d_Sheet_renew_20 : decode prog_8_method_3_code 20 = .ok (.iconst 0, 1) := by decide +kernel
theorem d_Sheet_renew_21 : decode prog_8_method_3_code 21 = .ok (.invokestatic 26, 3) := by decide +kernel
theorem kB_Arrays_fill_6 : kB M_Arrays_fill_6 2 := ⟨tm 13 (by decide +kernel) rfl, tm 792 (by decide +kernel) rfl, ⟨by decide, by decide, by decide +kernel⟩, by decide⟩
theorem k_Sheet_26_Arrays_fill_6S : kS "FelledByNames$Sheet" 26 M_Arrays_fill_6 2 := ⟨kB_Arrays_fill_6, tm 992 (by decide +kernel) rfl, tm 791 (by decide +kernel) rfl⟩
theorem d_Sheet_renew_24 : decode prog_8_method_3_code 24 = .ok (.return_, 1) := by decide +kernel
set_option maxRecDepth 100000 in
theorem c_Sheet_renew {a : Nat} {x y : Int32} {l : Launch} {d n : Nat} {R W Z : Nat → Nat → Int32} {T : Nat → Nat → Nat} {kn : Kn} {h0 : HP} {Q : QT} (hd : ds a = Ds.sh) (hd1 : ds (a + 1) = Ds.ar 40) (hQ : Q none n (co (uA R (a + 1) (flN 40 (nI 0) (R (a + 1)))) W (uZ (uZ Z a 2 x) a 1 (hld y (nI 0) (nI 40))) T kn h0)) : Ct l M_Sheet_renew (d + 2) 0 0 [.ref a, .int x, .int y] n (co R W Z T kn h0) Q := by
  refine Ct.of (fun _ => trivial) (by decide) (Nat.le_of_ble_eq_true rfl) ?_
  refine V.aload_n d_Sheet_renew_0 rfl ?_
  refine V.iload_n d_Sheet_renew_1 rfl ?_
  refine V.put d_Sheet_renew_2 f_Sheet_9_Sheet fp_Sheet_2 (fun _ => rfl) (fun _ => rfl) (co_s (sc_sh hd)) (Nat.le_of_ble_eq_true rfl) ?_
  refine V.eqH (co_ush2 hd) ?_
  refine V.aload_n d_Sheet_renew_5 rfl ?_
  refine V.iload_n d_Sheet_renew_6 rfl ?_
  refine V.iconst_ (nI 0) d_Sheet_renew_7 (by decide +kernel) ?_
  refine V.bipush_ (nI 40) d_Sheet_renew_8 (by decide +kernel) ?_
  refine V.callSN3 d_Sheet_renew_10 k_Sheet_15_F_clampSN (Nat.le_of_ble_eq_true rfl) (by omega) (by omega) (c_F_clamp (by decide +kernel) ?_)
  refine V.put d_Sheet_renew_13 f_Sheet_19_Sheet fp_Sheet_1 (fun _ => rfl) (fun _ => rfl) (co_s (sc_sh hd)) (Nat.le_of_ble_eq_true rfl) ?_
  refine V.eqH (co_ush1 hd) ?_
  refine V.aload_n d_Sheet_renew_16 rfl ?_
  refine V.get d_Sheet_renew_17 f_Sheet_22_Sheet (co_s (sc_sh hd)) rfl ?_
  refine V.iconst_ (nI 0) d_Sheet_renew_20 (by decide +kernel) ?_
  refine V.callS2 d_Sheet_renew_21 k_Sheet_26_Arrays_fill_6S (Nat.le_of_ble_eq_true rfl) (by omega) (by omega) (c_Arrays_fillI (co_s (sc_ar hd1)) (by decide) ?_)
  refine V.eqH (co_uR hd1) ?_
  refine V.vret d_Sheet_renew_24 rfl (Nat.le_of_ble_eq_true rfl) (Nat.le_of_ble_eq_true rfl) ?_
  exact hQ
abbrev M_Sheet_hasRun : MD := (⟨"FelledByNames$Sheet", "hasRun", "(II)Z"⟩, prog_8_method_5_code, 3, (some .boolean), fun _ => True)
theorem d_Sheet_hasRun_0 : decode prog_8_method_5_code 0 = .ok (.iload_n 1, 1) := by decide +kernel
theorem d_Sheet_hasRun_1 : decode prog_8_method_5_code 1 = .ok (.ifCond .lt 21, 3) := by decide +kernel
theorem d_Sheet_hasRun_22 : decode prog_8_method_5_code 22 = .ok (.iconst 0, 1) := by decide +kernel
theorem d_Sheet_hasRun_23 : decode prog_8_method_5_code 23 = .ok (.ireturn, 1) := by decide +kernel
theorem d_Sheet_hasRun_4 : decode prog_8_method_5_code 4 = .ok (.iload_n 2, 1) := by decide +kernel
theorem d_Sheet_hasRun_5 : decode prog_8_method_5_code 5 = .ok (.ifCond .lt 17, 3) := by decide +kernel
theorem d_Sheet_hasRun_8 : decode prog_8_method_5_code 8 = .ok (.iload_n 2, 1) := by decide +kernel
theorem d_Sheet_hasRun_9 : decode prog_8_method_5_code 9 = .ok (.aload_n 0, 1) := by decide +kernel
theorem d_Sheet_hasRun_10 : decode prog_8_method_5_code 10 = .ok (.getfield 19, 3) := by decide +kernel
theorem d_Sheet_hasRun_13 : decode prog_8_method_5_code 13 = .ok (.iload_n 1, 1) := by decide +kernel
theorem d_Sheet_hasRun_14 : decode prog_8_method_5_code 14 = .ok (.isub, 1) := by decide +kernel
theorem d_Sheet_hasRun_15 : decode prog_8_method_5_code 15 = .ok (.if_icmp .gt 7, 3) := by decide +kernel
theorem d_Sheet_hasRun_18 : decode prog_8_method_5_code 18 = .ok (.iconst 1, 1) := by decide +kernel
theorem d_Sheet_hasRun_19 : decode prog_8_method_5_code 19 = .ok (.goto 4, 3) := by decide +kernel
set_option maxRecDepth 100000 in
theorem c_Sheet_hasRun {a : Nat} {y w : Int32} {l : Launch} {d n : Nat} {R W Z : Nat → Nat → Int32} {T : Nat → Nat → Nat} {kn : Kn} {h0 : HP} {Q : QT} (hd : ds a = Ds.sh) (hQ : Q (some (.int (bi (hrn y w (Z a 1))))) n (co R W Z T kn h0)) : Ct l M_Sheet_hasRun d 0 0 [.ref a, .int y, .int w] n (co R W Z T kn h0) Q := by
  refine Ct.of (fun _ => trivial) (by decide) (Nat.le_of_ble_eq_true rfl) ?_
  refine V.iload_n d_Sheet_hasRun_0 rfl ?_
  refine V.if_lt (tgt := 22) d_Sheet_hasRun_1 (by decide) (fun c_1 => ?_) (fun c_1 => ?_)
  · skip
    refine V.iconst_ (nI 0) d_Sheet_hasRun_22 (by decide +kernel) ?_
    refine V.zret d_Sheet_hasRun_23 rfl rfl (Nat.le_of_ble_eq_true rfl) (Nat.le_of_ble_eq_true rfl) ?_
    first
    | exact Qb (b' := true) hQ (by unfold hrn; rw [decide_eq_true (Int32.not_lt.mp c_1), decide_eq_true (Int32.not_lt.mp c_5), decide_eq_true (Int32.not_lt.mp c_15)]; rfl)
    | exact Qb (b' := false) hQ (by unfold hrn; rw [decide_eq_false (fun z => Int32.not_lt.mpr z c_15), Bool.and_false])
    | exact Qb (b' := false) hQ (by unfold hrn; rw [decide_eq_false (fun z => Int32.not_lt.mpr z c_5), Bool.and_false, Bool.false_and])
    | exact Qb (b' := false) hQ (by unfold hrn; rw [decide_eq_false (fun z => Int32.not_lt.mpr z c_1), Bool.false_and, Bool.false_and])
  · skip
    refine V.iload_n d_Sheet_hasRun_4 rfl ?_
    refine V.if_lt (tgt := 22) d_Sheet_hasRun_5 (by decide) (fun c_5 => ?_) (fun c_5 => ?_)
    · skip
      refine V.iconst_ (nI 0) d_Sheet_hasRun_22 (by decide +kernel) ?_
      refine V.zret d_Sheet_hasRun_23 rfl rfl (Nat.le_of_ble_eq_true rfl) (Nat.le_of_ble_eq_true rfl) ?_
      first
      | exact Qb (b' := true) hQ (by unfold hrn; rw [decide_eq_true (Int32.not_lt.mp c_1), decide_eq_true (Int32.not_lt.mp c_5), decide_eq_true (Int32.not_lt.mp c_15)]; rfl)
      | exact Qb (b' := false) hQ (by unfold hrn; rw [decide_eq_false (fun z => Int32.not_lt.mpr z c_15), Bool.and_false])
      | exact Qb (b' := false) hQ (by unfold hrn; rw [decide_eq_false (fun z => Int32.not_lt.mpr z c_5), Bool.and_false, Bool.false_and])
      | exact Qb (b' := false) hQ (by unfold hrn; rw [decide_eq_false (fun z => Int32.not_lt.mpr z c_1), Bool.false_and, Bool.false_and])
    · skip
      refine V.iload_n d_Sheet_hasRun_8 rfl ?_
      refine V.aload_n d_Sheet_hasRun_9 rfl ?_
      refine V.get d_Sheet_hasRun_10 f_Sheet_19_Sheet (co_s (sc_sh hd)) rfl ?_
      refine V.iload_n d_Sheet_hasRun_13 rfl ?_
      refine V.isub d_Sheet_hasRun_14 ?_
      refine V.icmp_gt (tgt := 22) d_Sheet_hasRun_15 (by decide) (fun c_15 => ?_) (fun c_15 => ?_)
      · skip
        refine V.iconst_ (nI 0) d_Sheet_hasRun_22 (by decide +kernel) ?_
        refine V.zret d_Sheet_hasRun_23 rfl rfl (Nat.le_of_ble_eq_true rfl) (Nat.le_of_ble_eq_true rfl) ?_
        first
        | exact Qb (b' := true) hQ (by unfold hrn; rw [decide_eq_true (Int32.not_lt.mp c_1), decide_eq_true (Int32.not_lt.mp c_5), decide_eq_true (Int32.not_lt.mp c_15)]; rfl)
        | exact Qb (b' := false) hQ (by unfold hrn; rw [decide_eq_false (fun z => Int32.not_lt.mpr z c_15), Bool.and_false])
        | exact Qb (b' := false) hQ (by unfold hrn; rw [decide_eq_false (fun z => Int32.not_lt.mpr z c_5), Bool.and_false, Bool.false_and])
        | exact Qb (b' := false) hQ (by unfold hrn; rw [decide_eq_false (fun z => Int32.not_lt.mpr z c_1), Bool.false_and, Bool.false_and])
      · skip
        refine V.iconst_ (nI 1) d_Sheet_hasRun_18 (by decide +kernel) ?_
        refine V.goto (tgt := 23) d_Sheet_hasRun_19 (by decide) ?_
        refine V.zret d_Sheet_hasRun_23 rfl rfl (Nat.le_of_ble_eq_true rfl) (Nat.le_of_ble_eq_true rfl) ?_
        first
        | exact Qb (b' := true) hQ (by unfold hrn; rw [decide_eq_true (Int32.not_lt.mp c_1), decide_eq_true (Int32.not_lt.mp c_5), decide_eq_true (Int32.not_lt.mp c_15)]; rfl)
        | exact Qb (b' := false) hQ (by unfold hrn; rw [decide_eq_false (fun z => Int32.not_lt.mpr z c_15), Bool.and_false])
        | exact Qb (b' := false) hQ (by unfold hrn; rw [decide_eq_false (fun z => Int32.not_lt.mpr z c_5), Bool.and_false, Bool.false_and])
        | exact Qb (b' := false) hQ (by unfold hrn; rw [decide_eq_false (fun z => Int32.not_lt.mpr z c_1), Bool.false_and, Bool.false_and])
