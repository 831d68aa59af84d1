theorem pS_begin {S : Nat → Int32} {sz : Nat} {wd : Bool} : uS (uS (uS (uS (uS (uS (uS S 5 (nI 228)) 6 (nI 0)) 7 (nI sz)) 8 (-1)) 9 (nI 0)) 13 (nI 0)) 10 (bi wd) = pS S sz wd 0 (0, false, []) := by
  funext j
  unfold uS pS
  by_cases h1 : j = 10
  · subst h1; rfl
  · rw [if_neg h1]
    by_cases h2 : j = 13
    · subst h2; rfl
    · rw [if_neg h2]
      by_cases h3 : j = 9
      · subst h3; rfl
      · rw [if_neg h3]
        by_cases h4 : j = 8
        · subst h4; rfl
        · rw [if_neg h4]
          by_cases h5 : j = 7
          · subst h5; rfl
          · rw [if_neg h5]
            by_cases h6 : j = 6
            · subst h6; rfl
            · rw [if_neg h6]
              by_cases h7 : j = 5
              · subst h7; rfl
              · simp only [if_neg h1, if_neg h2, if_neg h3, if_neg h4, if_neg h5, if_neg h6, if_neg h7]
theorem wrt_at (f : Nat → Int32) : ∀ (ts : List Nat) (m u : Nat), u < ts.length → wrt f m ts (m + u) = nI (ts.getD u 0) := by
  intro ts
  induction ts generalizing f with
  | nil => intro m u hu; exact absurd hu (by simp)
  | cons t ts ih =>
    intro m u hu
    cases u with
    | zero =>
      show wrt (upd f m (nI t)) (m + 1) ts m = nI t
      have key : ∀ (ts : List Nat) (g : Nat → Int32) (k : Nat), m < k → wrt g k ts m = g m := by
        intro ts
        induction ts with
        | nil => intro g k _; rfl
        | cons a ts ih2 =>
          intro g k hk
          show wrt (upd g k (nI a)) (k + 1) ts m = g m
          rw [ih2 _ _ (by omega), pk_un (by omega)]
      rw [key ts _ _ (by omega), pk_us]
    | succ u =>
      have := ih (upd f m (nI t)) (m + 1) u (by have : u + 1 < ts.length + 1 := hu; omega)
      rw [show m + (u + 1) = m + 1 + u by omega]
      exact this
abbrev M_Mo_reads : MD := (⟨"FelledByNamesModel", "reads", "(III)V"⟩, prog_14_method_26_code, 4, none, fun _ => True)
theorem d_Mo_reads_0 : decode prog_14_method_26_code 0 = .ok (.aload_n 0, 1) := by decide +kernel
theorem d_Mo_reads_1 : decode prog_14_method_26_code 1 = .ok (.iload_n 1, 1) := by decide +kernel
theorem d_Mo_reads_2 : decode prog_14_method_26_code 2 = .ok (.putfield 76, 3) := by decide +kernel
theorem fp_Mo_5 : fpk 5 5 (.int) := ⟨_, _, _, rfl, rfl, by decide +kernel⟩
theorem d_Mo_reads_5 : decode prog_14_method_26_code 5 = .ok (.aload_n 0, 1) := by decide +kernel
theorem d_Mo_reads_6 : decode prog_14_method_26_code 6 = .ok (.iconst 0, 1) := by decide +kernel
theorem d_Mo_reads_7 : decode prog_14_method_26_code 7 = .ok (.putfield 66, 3) := by decide +kernel
theorem d_Mo_reads_10 : decode prog_14_method_26_code 10 = .ok (.aload_n 0, 1) := by decide +kernel
theorem d_Mo_reads_11 : decode prog_14_method_26_code 11 = .ok (.iload_n 2, 1) := by decide +kernel
theorem d_Mo_reads_12 : decode prog_14_method_26_code 12 = .ok (.putfield 70, 3) := by decide +kernel
theorem fp_Mo_7 : fpk 5 7 (.int) := ⟨_, _, _, rfl, rfl, by decide +kernel⟩
theorem d_Mo_reads_15 : decode prog_14_method_26_code 15 = .ok (.aload_n 0, 1) := by decide +kernel
theorem d_Mo_reads_16 : decode prog_14_method_26_code 16 = .ok (.iconst (-1), 1) := by decide +kernel
theorem d_Mo_reads_17 : decode prog_14_method_26_code 17 = .ok (.putfield 73, 3) := by decide +kernel
theorem d_Mo_reads_20 : decode prog_14_method_26_code 20 = .ok (.aload_n 0, 1) := by decide +kernel
theorem d_Mo_reads_21 : decode prog_14_method_26_code 21 = .ok (.iconst 0, 1) := by decide +kernel
theorem d_Mo_reads_22 : decode prog_14_method_26_code 22 = .ok (.putfield 112, 3) := by decide +kernel
theorem d_Mo_reads_25 : decode prog_14_method_26_code 25 = .ok (.aload_n 0, 1) := by decide +kernel
theorem d_Mo_reads_26 : decode prog_14_method_26_code 26 = .ok (.iconst 0, 1) := by decide +kernel
theorem d_Mo_reads_27 : decode prog_14_method_26_code 27 = .ok (.putfield 87, 3) := by decide +kernel
theorem d_Mo_reads_30 : decode prog_14_method_26_code 30 = .ok (.aload_n 0, 1) := by decide +kernel
theorem d_Mo_reads_31 : decode prog_14_method_26_code 31 = .ok (.iload_n 3, 1) := by decide +kernel
theorem d_Mo_reads_32 : decode prog_14_method_26_code 32 = .ok (.iconst 1, 1) := by decide +kernel
theorem d_Mo_reads_33 : decode prog_14_method_26_code 33 = .ok (.if_icmp .ne 7, 3) := by decide +kernel
theorem d_Mo_reads_40 : decode prog_14_method_26_code 40 = .ok (.iconst 0, 1) := by decide +kernel
theorem d_Mo_reads_41 : decode prog_14_method_26_code 41 = .ok (.putfield 83, 3) := by decide +kernel
theorem fp_Mo_10 : fpk 5 10 (.boolean) := ⟨_, _, _, rfl, rfl, by decide +kernel⟩
theorem d_Mo_reads_44 : decode prog_14_method_26_code 44 = .ok (.aload_n 0, 1) := by decide +kernel
theorem d_Mo_reads_45 : decode prog_14_method_26_code 45 = .ok (.invokevirtual 118, 3) := by decide +kernel
theorem d_Mo_reads_48 : decode prog_14_method_26_code 48 = .ok (.aload_n 0, 1) := by decide +kernel
theorem d_Mo_reads_49 : decode prog_14_method_26_code 49 = .ok (.getfield 73, 3) := by decide +kernel
theorem d_Mo_reads_52 : decode prog_14_method_26_code 52 = .ok (.ifCond .ge 18, 3) := by decide +kernel
theorem d_Mo_reads_70 : decode prog_14_method_26_code 70 = .ok (.return_, 1) := by decide +kernel
theorem d_Mo_reads_55 : decode prog_14_method_26_code 55 = .ok (.aload_n 0, 1) := by decide +kernel
theorem d_Mo_reads_56 : decode prog_14_method_26_code 56 = .ok (.getfield 66, 3) := by decide +kernel
theorem d_Mo_reads_59 : decode prog_14_method_26_code 59 = .ok (.aload_n 0, 1) := by decide +kernel
theorem d_Mo_reads_60 : decode prog_14_method_26_code 60 = .ok (.getfield 70, 3) := by decide +kernel
theorem d_Mo_reads_63 : decode prog_14_method_26_code 63 = .ok (.if_icmp .ge 7, 3) := by decide +kernel
theorem d_Mo_reads_66 : decode prog_14_method_26_code 66 = .ok (.aload_n 0, 1) := by decide +kernel
theorem d_Mo_reads_67 : decode prog_14_method_26_code 67 = .ok (.invokevirtual 115, 3) := by decide +kernel
theorem d_Mo_reads_36 : decode prog_14_method_26_code 36 = .ok (.iconst 1, 1) := by decide +kernel
theorem d_Mo_reads_37 : decode prog_14_method_26_code 37 = .ok (.goto 4, 3) := by decide +kernel
set_option maxRecDepth 100000 in
theorem c_Mo_reads {l : Launch} {d q n : Nat} {D : Nat → Int32} {A : Nat → Nat → Int32} {S : Nat → Int32} {h0 : HP} {Q : QT} {sz u : Nat} (hz : sz ≤ 50) (hu : u ≤ 1) (hQ : Q none n (mo q D (uA A 5 (wrt (A 5) 0 ((teP (fun j => D (228 + j)) sz (decide (u = 1)))).2.2)) (pS S sz (decide (u = 1)) 0 ((teP (fun j => D (228 + j)) sz (decide (u = 1))))) h0)) : Ct l M_Mo_reads (d + 43) 0 0 [.ref q, .int (nI 228), .int (nI sz), .int (nI u)] n (mo q D A S h0) Q := by
  have gu := Gp.un (f := (fun j => D (228 + j))) (sz := sz) (wd := decide (u = 1)) 5
  have a0 := unit_5 (l := l) (q := q) (D := D) (A := A) (S := S) (h0 := h0) (wd := decide (u = 1)) hz
  have a1 := c_Mo_product (y := d + 36) hz gu (a0 (d + 37) (by omega))
  have a2 := c_Mo_sum (y := d + 37) hz (Gp.pr gu) a1
  have a3 := c_Mo_compared (y := d + 38) hz (Gp.sm gu) a2
  have a4 := c_Mo_both (y := d + 39) hz (Gp.cm gu) a3
  have a5 := c_Mo_either (y := d + 40) hz (Gp.bo gu) a4
  have g2 : (eiP (fun j => D (228 + j)) sz (unP (fun j => D (228 + j)) sz (decide (u = 1)) 5) (0, false, [])).1 ≤ sz := (Gp.ei gu (0, false, []) (Nat.zero_le _)).2.1
  rw [show (teP (fun j => D (228 + j)) sz (decide (u = 1))) = (if (eiP (fun j => D (228 + j)) sz (unP (fun j => D (228 + j)) sz (decide (u = 1)) 5) (0, false, [])).2.1 = false ∧ (eiP (fun j => D (228 + j)) sz (unP (fun j => D (228 + j)) sz (decide (u = 1)) 5) (0, false, [])).1 < sz then wg (eiP (fun j => D (228 + j)) sz (unP (fun j => D (228 + j)) sz (decide (u = 1)) 5) (0, false, [])) else (eiP (fun j => D (228 + j)) sz (unP (fun j => D (228 + j)) sz (decide (u = 1)) 5) (0, false, []))) from rfl] at hQ
  refine Ct.of (fun _ => trivial) (by decide) (Nat.le_of_ble_eq_true rfl) ?_
  refine V.aload_n d_Mo_reads_0 rfl ?_
  refine V.iload_n d_Mo_reads_1 rfl ?_
  refine V.mput d_Mo_reads_2 f_Mo_76_Mo fp_Mo_5 rfl (by decide) ?_
  refine V.aload_n d_Mo_reads_5 rfl ?_
  refine V.iconst_ (nI 0) d_Mo_reads_6 (by decide +kernel) ?_
  refine V.mput d_Mo_reads_7 f_Mo_66_Mo fp_Mo_6 rfl (by decide) ?_
  refine V.aload_n d_Mo_reads_10 rfl ?_
  refine V.iload_n d_Mo_reads_11 rfl ?_
  refine V.mput d_Mo_reads_12 f_Mo_70_Mo fp_Mo_7 rfl (by decide) ?_
  refine V.aload_n d_Mo_reads_15 rfl ?_
  refine V.iconst_ (-1) d_Mo_reads_16 (by decide +kernel) ?_
  refine V.mput d_Mo_reads_17 f_Mo_73_Mo fp_Mo_8 rfl (by decide) ?_
  refine V.aload_n d_Mo_reads_20 rfl ?_
  refine V.iconst_ (nI 0) d_Mo_reads_21 (by decide +kernel) ?_
  refine V.mput d_Mo_reads_22 f_Mo_112_Mo fp_Mo_9 rfl (by decide) ?_
  refine V.aload_n d_Mo_reads_25 rfl ?_
  refine V.iconst_ (nI 0) d_Mo_reads_26 (by decide +kernel) ?_
  refine V.mput d_Mo_reads_27 f_Mo_87_Mo fp_Mo_13 rfl (by decide) ?_
  refine V.aload_n d_Mo_reads_30 rfl ?_
  refine V.iload_n d_Mo_reads_31 rfl ?_
  refine V.iconst_ (nI 1) d_Mo_reads_32 (by decide +kernel) ?_
  refine V.neN (tgt := 40) d_Mo_reads_33 (by decide) (by omega) (by omega) (fun c_33 => ?_) (fun c_33 => ?_)
  · skip
    refine V.iconst_ (nI 0) d_Mo_reads_40 (by decide +kernel) ?_
    refine V.eqS (st' := .int (bi (decide (u = 1))) :: _) (by first | (rw [decide_eq_true c_33]; rfl) | (rw [decide_eq_false c_33]; rfl)) ?_
    refine V.mputB d_Mo_reads_41 f_Mo_83_Mo fp_Mo_10 ?_
    rw [pS_begin]
    refine V.eqH (h' := mo q D (uA A 5 (wrt (A 5) 0 ((0, false, [])).2.2)) (pS S sz (decide (u = 1)) 0 ((0, false, []))) h0) (by rw [show wrt (A 5) 0 (0, false, []).2.2 = A 5 from rfl, uA_id]) ?_
    refine V.aload_n d_Mo_reads_44 rfl ?_
    refine V.callV0 d_Mo_reads_45 k_Mo_118_Mo_either_MoV mo_o (Nat.le_of_ble_eq_true rfl) (by omega) (by omega) (a5 _ _ (0, false, []) (Nat.zero_le _) (Nat.zero_le _) ?_)
    generalize es : (eiP (fun j => D (228 + j)) sz (unP (fun j => D (228 + j)) sz (decide (u = 1)) 5) (0, false, [])) = s at g2 hQ ⊢
    refine V.aload_n d_Mo_reads_48 rfl ?_
    refine V.get d_Mo_reads_49 f_Mo_73_Mo mo_o rfl ?_
    refine V.if_ge (tgt := 70) d_Mo_reads_52 (by decide) (fun c_52 => ?_) (fun c_52 => ?_)
    · skip
      refine V.vret d_Mo_reads_70 rfl (Nat.le_of_ble_eq_true rfl) (Nat.le_of_ble_eq_true rfl) ?_
      first
      | (rw [if_pos ⟨Bool.eq_false_iff.mpr (fun z => c_52 ((pS_8 (by omega)).mpr z)), c_63⟩] at hQ; exact hQ)
      | (rw [if_neg (fun z => absurd z.2 (by omega))] at hQ; exact hQ)
      | (rw [if_neg (fun z => absurd ((pS_8 (by omega)).mp c_52) (by rw [z.1]; decide))] at hQ; exact hQ)
    · skip
      refine V.aload_n d_Mo_reads_55 rfl ?_
      refine V.get d_Mo_reads_56 f_Mo_66_Mo mo_o rfl ?_
      refine V.top (y := nI (s.1)) rfl ?_
      refine V.aload_n d_Mo_reads_59 rfl ?_
      refine V.get d_Mo_reads_60 f_Mo_70_Mo mo_o rfl ?_
      refine V.top (y := nI (sz)) rfl ?_
      refine V.geN (tgt := 70) d_Mo_reads_63 (by decide) (by omega) (by omega) (fun c_63 => ?_) (fun c_63 => ?_)
      · skip
        refine V.vret d_Mo_reads_70 rfl (Nat.le_of_ble_eq_true rfl) (Nat.le_of_ble_eq_true rfl) ?_
        first
        | (rw [if_pos ⟨Bool.eq_false_iff.mpr (fun z => c_52 ((pS_8 (by omega)).mpr z)), c_63⟩] at hQ; exact hQ)
        | (rw [if_neg (fun z => absurd z.2 (by omega))] at hQ; exact hQ)
        | (rw [if_neg (fun z => absurd ((pS_8 (by omega)).mp c_52) (by rw [z.1]; decide))] at hQ; exact hQ)
      · skip
        refine V.aload_n d_Mo_reads_66 rfl ?_
        refine V.callV0 d_Mo_reads_67 k_Mo_115_Mo_wrong_MoV mo_o (Nat.le_of_ble_eq_true rfl) (by omega) (by omega) (c_Mo_wrong hz g2 ?_)
        refine V.vret d_Mo_reads_70 rfl (Nat.le_of_ble_eq_true rfl) (Nat.le_of_ble_eq_true rfl) ?_
        first
        | (rw [if_pos ⟨Bool.eq_false_iff.mpr (fun z => c_52 ((pS_8 (by omega)).mpr z)), c_63⟩] at hQ; exact hQ)
        | (rw [if_neg (fun z => absurd z.2 (by omega))] at hQ; exact hQ)
        | (rw [if_neg (fun z => absurd ((pS_8 (by omega)).mp c_52) (by rw [z.1]; decide))] at hQ; exact hQ)
  · skip
    refine V.iconst_ (nI 1) d_Mo_reads_36 (by decide +kernel) ?_
    refine V.goto (tgt := 41) d_Mo_reads_37 (by decide) ?_
    refine V.eqS (st' := .int (bi (decide (u = 1))) :: _) (by first | (rw [decide_eq_true c_33]; rfl) | (rw [decide_eq_false c_33]; rfl)) ?_
    refine V.mputB d_Mo_reads_41 f_Mo_83_Mo fp_Mo_10 ?_
    rw [pS_begin]
    refine V.eqH (h' := mo q D (uA A 5 (wrt (A 5) 0 ((0, false, [])).2.2)) (pS S sz (decide (u = 1)) 0 ((0, false, []))) h0) (by rw [show wrt (A 5) 0 (0, false, []).2.2 = A 5 from rfl, uA_id]) ?_
    refine V.aload_n d_Mo_reads_44 rfl ?_
    refine V.callV0 d_Mo_reads_45 k_Mo_118_Mo_either_MoV mo_o (Nat.le_of_ble_eq_true rfl) (by omega) (by omega) (a5 _ _ (0, false, []) (Nat.zero_le _) (Nat.zero_le _) ?_)
    generalize es : (eiP (fun j => D (228 + j)) sz (unP (fun j => D (228 + j)) sz (decide (u = 1)) 5) (0, false, [])) = s at g2 hQ ⊢
    refine V.aload_n d_Mo_reads_48 rfl ?_
    refine V.get d_Mo_reads_49 f_Mo_73_Mo mo_o rfl ?_
    refine V.if_ge (tgt := 70) d_Mo_reads_52 (by decide) (fun c_52 => ?_) (fun c_52 => ?_)
    · skip
      refine V.vret d_Mo_reads_70 rfl (Nat.le_of_ble_eq_true rfl) (Nat.le_of_ble_eq_true rfl) ?_
      first
      | (rw [if_pos ⟨Bool.eq_false_iff.mpr (fun z => c_52 ((pS_8 (by omega)).mpr z)), c_63⟩] at hQ; exact hQ)
      | (rw [if_neg (fun z => absurd z.2 (by omega))] at hQ; exact hQ)
      | (rw [if_neg (fun z => absurd ((pS_8 (by omega)).mp c_52) (by rw [z.1]; decide))] at hQ; exact hQ)
    · skip
      refine V.aload_n d_Mo_reads_55 rfl ?_
      refine V.get d_Mo_reads_56 f_Mo_66_Mo mo_o rfl ?_
      refine V.top (y := nI (s.1)) rfl ?_
      refine V.aload_n d_Mo_reads_59 rfl ?_
      refine V.get d_Mo_reads_60 f_Mo_70_Mo mo_o rfl ?_
      refine V.top (y := nI (sz)) rfl ?_
      refine V.geN (tgt := 70) d_Mo_reads_63 (by decide) (by omega) (by omega) (fun c_63 => ?_) (fun c_63 => ?_)
      · skip
        refine V.vret d_Mo_reads_70 rfl (Nat.le_of_ble_eq_true rfl) (Nat.le_of_ble_eq_true rfl) ?_
        first
        | (rw [if_pos ⟨Bool.eq_false_iff.mpr (fun z => c_52 ((pS_8 (by omega)).mpr z)), c_63⟩] at hQ; exact hQ)
        | (rw [if_neg (fun z => absurd z.2 (by omega))] at hQ; exact hQ)
        | (rw [if_neg (fun z => absurd ((pS_8 (by omega)).mp c_52) (by rw [z.1]; decide))] at hQ; exact hQ)
      · skip
        refine V.aload_n d_Mo_reads_66 rfl ?_
        refine V.callV0 d_Mo_reads_67 k_Mo_115_Mo_wrong_MoV mo_o (Nat.le_of_ble_eq_true rfl) (by omega) (by omega) (c_Mo_wrong hz g2 ?_)
        refine V.vret d_Mo_reads_70 rfl (Nat.le_of_ble_eq_true rfl) (Nat.le_of_ble_eq_true rfl) ?_
        first
        | (rw [if_pos ⟨Bool.eq_false_iff.mpr (fun z => c_52 ((pS_8 (by omega)).mpr z)), c_63⟩] at hQ; exact hQ)
        | (rw [if_neg (fun z => absurd z.2 (by omega))] at hQ; exact hQ)
        | (rw [if_neg (fun z => absurd ((pS_8 (by omega)).mp c_52) (by rw [z.1]; decide))] at hQ; exact hQ)
abbrev M_Mo_text : MD := (⟨"FelledByNamesModel", "text", "(I)I"⟩, prog_14_method_30_code, 4, (some .int), fun _ => True)
theorem d_Mo_text_0 : decode prog_14_method_30_code 0 = .ok (.iload_n 1, 1) := by decide +kernel
theorem d_Mo_text_1 : decode prog_14_method_30_code 1 = .ok (.i2l, 1) := by decide +kernel
theorem d_Mo_text_2 : decode prog_14_method_30_code 2 = .ok (.lconst 0, 1) := by decide +kernel
theorem d_Mo_text_3 : decode prog_14_method_30_code 3 = .ok (.lconst 1, 1) := by decide +kernel
theorem d_Mo_text_4 : decode prog_14_method_30_code 4 = .ok (.invokestatic 56, 3) := by decide +kernel
theorem d_Mo_text_7 : decode prog_14_method_30_code 7 = .ok (.ifCond .ne 9, 3) := by decide +kernel
theorem d_Mo_text_16 : decode prog_14_method_30_code 16 = .ok (.aload_n 0, 1) := by decide +kernel
theorem d_Mo_text_17 : decode prog_14_method_30_code 17 = .ok (.getfield 7, 3) := by decide +kernel
theorem d_Mo_text_20 : decode prog_14_method_30_code 20 = .ok (.bipush 6, 2) := by decide +kernel
theorem d_Mo_text_22 : decode prog_14_method_30_code 22 = .ok (.iaload, 1) := by decide +kernel
theorem d_Mo_text_23 : decode prog_14_method_30_code 23 = .ok (.istore_n 2, 1) := by decide +kernel
theorem d_Mo_text_24 : decode prog_14_method_30_code 24 = .ok (.aload_n 0, 1) := by decide +kernel
theorem d_Mo_text_25 : decode prog_14_method_30_code 25 = .ok (.getfield 7, 3) := by decide +kernel
theorem d_Mo_text_28 : decode prog_14_method_30_code 28 = .ok (.bipush 6, 2) := by decide +kernel
theorem d_Mo_text_30 : decode prog_14_method_30_code 30 = .ok (.iconst 0, 1) := by decide +kernel
theorem d_Mo_text_31 : decode prog_14_method_30_code 31 = .ok (.iastore, 1) := by decide +kernel
theorem d_Mo_text_32 : decode prog_14_method_30_code 32 = .ok (.aload_n 0, 1) := by decide +kernel
theorem d_Mo_text_33 : decode prog_14_method_30_code 33 = .ok (.sipush 228, 3) := by decide +kernel
theorem d_Mo_text_36 : decode prog_14_method_30_code 36 = .ok (.iload_n 2, 1) := by decide +kernel
theorem d_Mo_text_37 : decode prog_14_method_30_code 37 = .ok (.iload_n 1, 1) := by decide +kernel
theorem d_Mo_text_38 : decode prog_14_method_30_code 38 = .ok (.invokevirtual 143, 3) := by decide +kernel
theorem kB_Mo_reads : kB M_Mo_reads 3 := ⟨tm 15 (by decide +kernel) rfl, tm 1159 (by decide +kernel) rfl, ⟨by decide, by decide, by decide +kernel⟩, by decide⟩
theorem k_Mo_143_Mo_reads_MoV : kV "FelledByNamesModel" 143 5 M_Mo_reads 3 := ⟨kB_Mo_reads, tm 1156 (by decide +kernel) rfl, tm 1158 (by decide +kernel) rfl, tp 14 (by decide +kernel) rfl, _, rfl, rfl⟩
theorem d_Mo_text_41 : decode prog_14_method_30_code 41 = .ok (.aload_n 0, 1) := by decide +kernel
theorem d_Mo_text_42 : decode prog_14_method_30_code 42 = .ok (.getfield 73, 3) := by decide +kernel
theorem d_Mo_text_45 : decode prog_14_method_30_code 45 = .ok (.ifCond .lt 11, 3) := by decide +kernel
theorem d_Mo_text_56 : decode prog_14_method_30_code 56 = .ok (.aload_n 0, 1) := by decide +kernel
theorem d_Mo_text_57 : decode prog_14_method_30_code 57 = .ok (.getfield 7, 3) := by decide +kernel
theorem d_Mo_text_60 : decode prog_14_method_30_code 60 = .ok (.bipush 106, 2) := by decide +kernel
theorem d_Mo_text_62 : decode prog_14_method_30_code 62 = .ok (.iload_n 1, 1) := by decide +kernel
theorem d_Mo_text_63 : decode prog_14_method_30_code 63 = .ok (.iadd, 1) := by decide +kernel
theorem d_Mo_text_64 : decode prog_14_method_30_code 64 = .ok (.aload_n 0, 1) := by decide +kernel
theorem d_Mo_text_65 : decode prog_14_method_30_code 65 = .ok (.getfield 87, 3) := by decide +kernel
theorem d_Mo_text_68 : decode prog_14_method_30_code 68 = .ok (.iastore, 1) := by decide +kernel
theorem d_Mo_text_69 : decode prog_14_method_30_code 69 = .ok (.iconst 0, 1) := by decide +kernel
theorem d_Mo_text_70 : decode prog_14_method_30_code 70 = .ok (.istore_n 3, 1) := by decide +kernel
theorem d_Mo_text_71 : decode prog_14_method_30_code 71 = .ok (.iload_n 3, 1) := by decide +kernel
theorem d_Mo_text_72 : decode prog_14_method_30_code 72 = .ok (.aload_n 0, 1) := by decide +kernel
theorem d_Mo_text_73 : decode prog_14_method_30_code 73 = .ok (.getfield 87, 3) := by decide +kernel
theorem d_Mo_text_76 : decode prog_14_method_30_code 76 = .ok (.if_icmp .ge 30, 3) := by decide +kernel
theorem d_Mo_text_106 : decode prog_14_method_30_code 106 = .ok (.iconst 1, 1) := by decide +kernel
theorem d_Mo_text_107 : decode prog_14_method_30_code 107 = .ok (.ireturn, 1) := by decide +kernel
theorem d_Mo_text_79 : decode prog_14_method_30_code 79 = .ok (.aload_n 0, 1) := by decide +kernel
theorem d_Mo_text_80 : decode prog_14_method_30_code 80 = .ok (.getfield 7, 3) := by decide +kernel
theorem d_Mo_text_83 : decode prog_14_method_30_code 83 = .ok (.sipush 128, 3) := by decide +kernel
theorem d_Mo_text_86 : decode prog_14_method_30_code 86 = .ok (.bipush 50, 2) := by decide +kernel
theorem d_Mo_text_88 : decode prog_14_method_30_code 88 = .ok (.iload_n 1, 1) := by decide +kernel
theorem d_Mo_text_89 : decode prog_14_method_30_code 89 = .ok (.imul, 1) := by decide +kernel
theorem d_Mo_text_90 : decode prog_14_method_30_code 90 = .ok (.iadd, 1) := by decide +kernel
theorem d_Mo_text_91 : decode prog_14_method_30_code 91 = .ok (.iload_n 3, 1) := by decide +kernel
theorem d_Mo_text_92 : decode prog_14_method_30_code 92 = .ok (.iadd, 1) := by decide +kernel
theorem d_Mo_text_93 : decode prog_14_method_30_code 93 = .ok (.aload_n 0, 1) := by decide +kernel
theorem d_Mo_text_94 : decode prog_14_method_30_code 94 = .ok (.getfield 25, 3) := by decide +kernel
theorem d_Mo_text_97 : decode prog_14_method_30_code 97 = .ok (.iload_n 3, 1) := by decide +kernel
theorem d_Mo_text_98 : decode prog_14_method_30_code 98 = .ok (.iaload, 1) := by decide +kernel
theorem d_Mo_text_99 : decode prog_14_method_30_code 99 = .ok (.iastore, 1) := by decide +kernel
theorem d_Mo_text_100 : decode prog_14_method_30_code 100 = .ok (.iinc 3 1, 3) := by decide +kernel
theorem d_Mo_text_103 : decode prog_14_method_30_code 103 = .ok (.goto (-32), 3) := by decide +kernel
theorem d_Mo_text_48 : decode prog_14_method_30_code 48 = .ok (.bipush (-10), 2) := by decide +kernel
theorem d_Mo_text_50 : decode prog_14_method_30_code 50 = .ok (.aload_n 0, 1) := by decide +kernel
theorem d_Mo_text_51 : decode prog_14_method_30_code 51 = .ok (.getfield 73, 3) := by decide +kernel
theorem d_Mo_text_54 : decode prog_14_method_30_code 54 = .ok (.isub, 1) := by decide +kernel
theorem d_Mo_text_55 : decode prog_14_method_30_code 55 = .ok (.ireturn, 1) := by decide +kernel
theorem d_Mo_text_10 : decode prog_14_method_30_code 10 = .ok (.aload_n 0, 1) := by decide +kernel
theorem d_Mo_text_11 : decode prog_14_method_30_code 11 = .ok (.iconst 1, 1) := by decide +kernel
theorem d_Mo_text_12 : decode prog_14_method_30_code 12 = .ok (.invokevirtual 138, 3) := by decide +kernel
theorem d_Mo_text_15 : decode prog_14_method_30_code 15 = .ok (.ireturn, 1) := by decide +kernel
set_option maxRecDepth 100000 in
theorem c_Mo_text {x : Int32} {sz : Nat} {l : Launch} {d q n : Nat} {D : Nat → Int32} {A : Nat → Nat → Int32} {S : Nat → Int32} {h0 : HP} {Q : QT} (hz : sz ≤ 50) (e6 : D 6 = nI sz) (hE : wi x (nI 0) (nI 1) = false → Q (some (.int (-1000000000 - nI 1))) n (mo q D (uA A 3 (upd (A 3) 1 (A 3 1 + nI 1))) S h0)) (hF : ∀ u, u ≤ 1 → x = nI u → (teP (fun j => upd D 6 (nI 0) (228 + j)) sz (decide (u = 1))).2.1 = true → ∀ (A1 : Nat → Nat → Int32) (S1 : Nat → Int32), (∀ j, j ≠ 5 → A1 j = A j) → (∀ j, j = 3 ∨ 14 ≤ j → S1 j = S j) →  Q (some (.int (-10 - nI (teP (fun j => upd D 6 (nI 0) (228 + j)) sz (decide (u = 1))).1))) n (mo q (upd D 6 (nI 0)) A1 S1 h0)) (hOk : ∀ u, u ≤ 1 → x = nI u → (teP (fun j => upd D 6 (nI 0) (228 + j)) sz (decide (u = 1))).2.1 = false → Wf (fun j => (teP (fun j => upd D 6 (nI 0) (228 + j)) sz (decide (u = 1))).2.2.getD j 0) (teP (fun j => upd D 6 (nI 0) (228 + j)) sz (decide (u = 1))).2.2.length → (teP (fun j => upd D 6 (nI 0) (228 + j)) sz (decide (u = 1))).2.2.length ≤ 50 → 0 < (teP (fun j => upd D 6 (nI 0) (228 + j)) sz (decide (u = 1))).2.2.length → ∀ (A1 : Nat → Nat → Int32) (S1 : Nat → Int32), (∀ j, j ≠ 5 → A1 j = A j) → (∀ j, j = 3 ∨ 14 ≤ j → S1 j = S j) →  Q (some (.int (nI 1))) n (mo q (sgc (upd (upd D 6 (nI 0)) (106 + u) (nI (teP (fun j => upd D 6 (nI 0) (228 + j)) sz (decide (u = 1))).2.2.length)) (fun t => nI ((teP (fun j => upd D 6 (nI 0) (228 + j)) sz (decide (u = 1))).2.2.getD t 0)) (128 + 50 * u) (teP (fun j => upd D 6 (nI 0) (228 + j)) sz (decide (u = 1))).2.2.length) A1 S1 h0)) : Ct l M_Mo_text (d + 44) 0 0 [.ref q, .int x] n (mo q D A S h0) Q := by
  refine Ct.of (fun _ => trivial) (by decide) (Nat.le_of_ble_eq_true rfl) ?_
  refine V.iload_n d_Mo_text_0 rfl ?_
  refine V.i2l d_Mo_text_1 ?_
  refine V.lconst_ ((nI 0).toInt64) d_Mo_text_2 (by decide +kernel) ?_
  refine V.lconst_ ((nI 1).toInt64) d_Mo_text_3 (by decide +kernel) ?_
  refine V.callS3 d_Mo_text_4 k_Mo_56_Mo_inS (Nat.le_of_ble_eq_true rfl) (by omega) (by omega) (c_Mo_in ?_)
  refine V.ifneB (tgt := 16) d_Mo_text_7 (by decide) (fun c_7 => ?_) (fun c_7 => ?_)
  · skip
    obtain ⟨u, hu, rfl⟩ := wi_nat (by decide) c_7
    have hF := hF u hu rfl
    have hOk := hOk u hu rfl
    refine V.aload_n d_Mo_text_16 rfl ?_
    refine V.get d_Mo_text_17 f_Mo_7_Mo mo_o rfl ?_
    refine V.bipush_ (nI 6) d_Mo_text_20 (by decide +kernel) ?_
    refine V.mldd d_Mo_text_22 (by omega) ?_
    refine V.top e6 ?_
    refine V.istore_n d_Mo_text_23 (by decide) ?_
    refine V.aload_n d_Mo_text_24 rfl ?_
    refine V.get d_Mo_text_25 f_Mo_7_Mo mo_o rfl ?_
    refine V.bipush_ (nI 6) d_Mo_text_28 (by decide +kernel) ?_
    refine V.iconst_ (nI 0) d_Mo_text_30 (by decide +kernel) ?_
    refine V.mstd d_Mo_text_31 (by omega) ?_
    refine V.aload_n d_Mo_text_32 rfl ?_
    refine V.sipush_ (nI 228) d_Mo_text_33 (by decide +kernel) ?_
    refine V.iload_n d_Mo_text_36 rfl ?_
    refine V.iload_n d_Mo_text_37 rfl ?_
    refine V.callV3 d_Mo_text_38 k_Mo_143_Mo_reads_MoV mo_o (Nat.le_of_ble_eq_true rfl) (by omega) (by omega) (c_Mo_reads hz hu ?_)
    have hle := teP_le (f := (fun j => upd D 6 (nI 0) (228 + j))) (sz := sz) (wd := decide (u = 1))
    have hok := teP_ok (f := (fun j => upd D 6 (nI 0) (228 + j))) (sz := sz) (wd := decide (u = 1)) hz
    generalize es : (teP (fun j => upd D 6 (nI 0) (228 + j)) sz (decide (u = 1))) = s at hle hok hF hOk ⊢
    refine V.aload_n d_Mo_text_41 rfl ?_
    refine V.get d_Mo_text_42 f_Mo_73_Mo mo_o rfl ?_
    refine V.if_lt (tgt := 56) d_Mo_text_45 (by decide) (fun c_45 => ?_) (fun c_45 => ?_)
    · skip
      have hff : s.2.1 = false := Bool.eq_false_iff.mpr (fun z => Int32.not_lt.mpr ((pS_8 (by omega)).mpr z) c_45)
      obtain ⟨k1, k2, k3⟩ := hok hff
      refine V.aload_n d_Mo_text_56 rfl ?_
      refine V.get d_Mo_text_57 f_Mo_7_Mo mo_o rfl ?_
      refine V.bipush_ (nI 106) d_Mo_text_60 (by decide +kernel) ?_
      refine V.iload_n d_Mo_text_62 rfl ?_
      refine V.addN d_Mo_text_63 ?_
      refine V.aload_n d_Mo_text_64 rfl ?_
      refine V.get d_Mo_text_65 f_Mo_87_Mo mo_o rfl ?_
      refine V.top (y := nI (s.2.2.length)) rfl ?_
      refine V.mstd d_Mo_text_68 (by omega) ?_
      refine V.iconst_ (nI 0) d_Mo_text_69 (by decide +kernel) ?_
      refine V.istore_n d_Mo_text_70 (by decide) ?_
      refine V.eqH (h' := mo q (sgc (upd (upd D 6 (nI 0)) (106 + u) (nI s.2.2.length)) (fun t => nI (s.2.2.getD t 0)) (128 + 50 * u) 0) (uA A 5 (wrt (A 5) 0 s.2.2)) (pS S sz (decide (u = 1)) 0 s) h0) (by rw [sgc_0]) ?_
      refine V.lc (ls' := [(0, .ref q), (1, .int (nI u)), (3, .int (nI 0))]) rfl ?_
      refine up_to (G := fun k => V l M_Mo_text (d + 44) 0 0 71 [(0, .ref q), (1, .int (nI u)), (3, .int (nI k))] [] n (mo q (sgc (upd (upd D 6 (nI 0)) (106 + u) (nI s.2.2.length)) (fun t => nI (s.2.2.getD t 0)) (128 + 50 * u) k) (uA A 5 (wrt (A 5) 0 s.2.2)) (pS S sz (decide (u = 1)) 0 s) h0) 0 0 Q) (s.2.2.length) ?_ (fun k hk hn => ?_) 0 (by omega)
      · skip
        refine V.iload_n d_Mo_text_71 rfl ?_
        refine V.aload_n d_Mo_text_72 rfl ?_
        refine V.get d_Mo_text_73 f_Mo_87_Mo mo_o rfl ?_
        refine V.top (y := nI (s.2.2.length)) rfl ?_
        refine V.geN (tgt := 106) d_Mo_text_76 (by decide) (by omega) (by omega) (fun c_76 => ?_) (fun c_76 => ?_)
        · skip
          refine V.iconst_ (nI 1) d_Mo_text_106 (by decide +kernel) ?_
          refine V.iret d_Mo_text_107 rfl (Nat.le_of_ble_eq_true rfl) (Nat.le_of_ble_eq_true rfl) ?_
          exact hOk hff k1 k2 k3 _ _ (fun j hj => uA_n hj) (fun j hj => by unfold pS; rw [if_neg (by omega), if_neg (by omega), if_neg (by omega), if_neg (by omega), if_neg (by omega), if_neg (by omega), if_neg (by omega)])
        · skip
          exact absurd c_76 (by omega)
      · skip
        have ew := wrt_at (A 5) s.2.2 0 k hk
        rw [Nat.zero_add] at ew
        rw [← sgc_s] at hn
        refine V.iload_n d_Mo_text_71 rfl ?_
        refine V.aload_n d_Mo_text_72 rfl ?_
        refine V.get d_Mo_text_73 f_Mo_87_Mo mo_o rfl ?_
        refine V.top (y := nI (s.2.2.length)) rfl ?_
        refine V.geN (tgt := 106) d_Mo_text_76 (by decide) (by omega) (by omega) (fun c_76 => ?_) (fun c_76 => ?_)
        · skip
          exact absurd c_76 (by omega)
        · skip
          refine V.aload_n d_Mo_text_79 rfl ?_
          refine V.get d_Mo_text_80 f_Mo_7_Mo mo_o rfl ?_
          refine V.sipush_ (nI 128) d_Mo_text_83 (by decide +kernel) ?_
          refine V.bipush_ (nI 50) d_Mo_text_86 (by decide +kernel) ?_
          refine V.iload_n d_Mo_text_88 rfl ?_
          refine V.mulN d_Mo_text_89 ?_
          refine V.addN d_Mo_text_90 ?_
          refine V.iload_n d_Mo_text_91 rfl ?_
          refine V.addN d_Mo_text_92 ?_
          refine V.aload_n d_Mo_text_93 rfl ?_
          refine V.get d_Mo_text_94 f_Mo_25_Mo mo_o rfl ?_
          refine V.iload_n d_Mo_text_97 rfl ?_
          refine V.mlda 5 (by decide) (by decide) d_Mo_text_98 (by first | omega | (show _ < 60; omega)) ?_
          refine V.mstd d_Mo_text_99 (by omega) ?_
          refine V.incN d_Mo_text_100 rfl (by decide) ?_
          refine V.goto (tgt := 71) d_Mo_text_103 (by decide) ?_
          rw [uA_s]
          rw [ew]
          exact V.lc rfl hn
    · skip
      have hft := (pS_8 (by omega)).mp (Int32.not_lt.mp c_45)
      refine V.bipush_ (-10) d_Mo_text_48 (by decide +kernel) ?_
      refine V.aload_n d_Mo_text_50 rfl ?_
      refine V.get d_Mo_text_51 f_Mo_73_Mo mo_o rfl ?_
      refine V.top (pS_8t hft) ?_
      refine V.isub d_Mo_text_54 ?_
      refine V.iret d_Mo_text_55 rfl (Nat.le_of_ble_eq_true rfl) (Nat.le_of_ble_eq_true rfl) ?_
      exact hF hft _ _ (fun j hj => uA_n hj) (fun j hj => by unfold pS; rw [if_neg (by omega), if_neg (by omega), if_neg (by omega), if_neg (by omega), if_neg (by omega), if_neg (by omega), if_neg (by omega)])
  · skip
    refine V.aload_n d_Mo_text_10 rfl ?_
    refine V.iconst_ (nI 1) d_Mo_text_11 (by decide +kernel) ?_
    refine V.callV1 d_Mo_text_12 k_Mo_138_Mo_finds_MoV mo_o (Nat.le_of_ble_eq_true rfl) (by omega) (by omega) (c_Mo_finds (by omega) ?_)
    refine V.iret d_Mo_text_15 rfl (Nat.le_of_ble_eq_true rfl) (Nat.le_of_ble_eq_true rfl) ?_
    exact hE c_7
