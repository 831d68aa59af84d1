def DW (D : Nat → Int32) (N : Nat) (W0 : Nat → Nat) (len0 : Nat) (W1 : Nat → Nat) (len1 : Nat) : Prop := D 0 = nI N ∧ TS D N ∧ Cd D 0 W0 len0 ∧ Cd D 1 W1 len1 ∧ ∀ t, t < 8 → NB D (50 + 7 * t + 6) 1
/-- what a day leaves as it is -/
def kpt (j : Nat) : Prop := j = 0 ∨ j = 2 ∨ (5 ≤ j ∧ j < 8) ∨ (44 ≤ j ∧ j < 50) ∨ (50 ≤ j ∧ j < 106 ∧ (j - 50) % 7 < 5) ∨ 106 ≤ j
theorem itr_keep {α : Type} {P : α → Prop} {g : Nat → α → α} : ∀ (m : Nat) (x : α), (∀ k x, k < m → P x → P (g k x)) → P x → P (itr g m x) := by
  intro m
  induction m with
  | zero => intro x _ h; exact h
  | succ m ih => intro x hg h; exact hg m _ (Nat.lt_succ_self m) (ih x (fun k x hk => hg k x (by omega)) h)
theorem fst3_keep {wv : Int32 → Int32 → Int32 → Int32} {N : Nat} (hN : N ≤ 8) {j : Nat} (hj : kpt j) (X : XX) : (itr (fst3 wv N) N X).1 j = X.1 j := by
  refine itr_keep (P := fun Y : XX => Y.1 j = X.1 j) N X (fun k Y hk hY => ?_) rfl
  unfold fst3
  split
  · unfold kpt at hj
    rcases Nat.lt_or_ge j 106 with h | h
    · rw [fl_keep (by omega) (by omega) (by omega)]; exact hY
    · rw [fl_keep8 hN h _ _ _ hk]; exact hY
  · exact hY
theorem dayD_x {cv wv : Int32 → Int32 → Int32 → Int32} {N : Nat} (hN : N ≤ 8) {D : Nat → Int32} {j : Nat} (hj : kpt j) : (dayD cv wv N D).1 j = D j := by
  show upd _ 1 _ j = D j
  have h1 : j ≠ 1 := by unfold kpt at hj; omega
  rw [pk_un h1, fst3_keep hN hj]
  show dg2 (dc1 cv D 36) N j = D j
  unfold kpt at hj
  rw [dg2_x (by omega), dc1_x (by omega)]
theorem fl_st {wv : Int32 → Int32 → Int32 → Int32} {N j : Nat} : ∀ (f t : Nat) (x : XX), (fl wv N f t x).1 (50 + 7 * j + 6) = x.1 (50 + 7 * j + 6) ∨ (fl wv N f t x).1 (50 + 7 * j + 6) = nI 0 := by
  have hg : ∀ (t : Nat) (D : Nat → Int32), gdn wv D t (50 + 7 * j + 6) = D (50 + 7 * j + 6) ∨ gdn wv D t (50 + 7 * j + 6) = nI 0 := by
    intro t D
    rw [gdn_st]
    split
    · exact Or.inr rfl
    · exact Or.inl rfl
  intro f
  induction f with
  | zero => intro t x; exact hg t x.1
  | succ f ih =>
    intro t x
    refine itf_keep (P := fun y : XX => y.1 (50 + 7 * j + 6) = x.1 (50 + 7 * j + 6) ∨ y.1 (50 + 7 * j + 6) = nI 0) (fun k y hy => ?_) N 0 _ (hg t x.1)
    show (if cnd y.1 t k = true then fl wv N f k y else y).1 _ = _ ∨ (if cnd y.1 t k = true then fl wv N f k y else y).1 _ = _
    split
    · rcases ih k y with h | h
      · rw [h]; exact hy
      · exact Or.inr h
    · exact hy
theorem dayD_st {cv wv : Int32 → Int32 → Int32 → Int32} {N : Nat} {D : Nat → Int32} {j : Nat} : (dayD cv wv N D).1 (50 + 7 * j + 6) = D (50 + 7 * j + 6) ∨ (dayD cv wv N D).1 (50 + 7 * j + 6) = nI 0 := by
  have e : (dayD cv wv N D).1 (50 + 7 * j + 6) = (itr (fst3 wv N) N (dg2 (dc1 cv D 36) N, [])).1 (50 + 7 * j + 6) := by
    show upd (itr (fst3 wv N) N (dg2 (dc1 cv D 36) N, [])).1 1 ((itr (fst3 wv N) N (dg2 (dc1 cv D 36) N, [])).1 1 + nI 1) (50 + 7 * j + 6) = _
    rw [pk_un (by omega)]
  rw [e]
  refine itr_keep (P := fun Y : XX => Y.1 (50 + 7 * j + 6) = D (50 + 7 * j + 6) ∨ Y.1 (50 + 7 * j + 6) = nI 0) N _ (fun k Y hk hY => ?_) (Or.inl ?_)
  · unfold fst3
    split
    · rcases fl_st (wv := wv) (N := N) (j := j) 7 k Y with h | h
      · rw [h]; exact hY
      · exact Or.inr h
    · exact hY
  · show dg2 (dc1 cv D 36) N (50 + 7 * j + 6) = D (50 + 7 * j + 6)
    rw [dg2_x (by omega), dc1_x (by omega)]
theorem DW.day {cv wv : Int32 → Int32 → Int32 → Int32} {D : Nat → Int32} {N len0 len1 : Nat} {W0 W1 : Nat → Nat} (hN : N ≤ 8) (h : DW D N W0 len0 W1 len1) : DW (dayD cv wv N D).1 N W0 len0 W1 len1 := by
  obtain ⟨h1, h2, h3, h4, h5⟩ := h
  refine ⟨by rw [dayD_x hN (Or.inl rfl)]; exact h1, h2.same (fun t ht => ⟨dayD_x hN ?_, dayD_x hN ?_, dayD_x hN ?_⟩), h3.same (fun j hj => dayD_x hN ?_), h4.same (fun j hj => dayD_x hN ?_), fun t ht => ?_⟩
  all_goals first | (unfold kpt; omega) | skip
  rcases dayD_st (cv := cv) (wv := wv) (N := N) (D := D) (j := t) with h | h
  · unfold NB; rw [h]; exact h5 t ht
  · exact ⟨0, by omega, h⟩
theorem dayD_len {cv wv : Int32 → Int32 → Int32 → Int32} {N : Nat} (hN : N ≤ 8) {D : Nat → Int32} : (dayD cv wv N D).2.length ≤ 8 := by
  have h := itr_keep (P := fun Y : XX => Y.2.length + cst Y.1 N ≤ 8) (g := fst3 wv N) N (dg2 (dc1 cv D 36) N, []) (fun k Y hk hY => by
    unfold fst3
    split
    · next h =>
      unfold ovr at h
      simp only [Bool.and_eq_true, decide_eq_true_eq] at h
      rw [fl_cnt 7 k Y hk h.1.1]; exact hY
    · exact hY) (by have := cst_le (D := dg2 (dc1 cv D 36) N) N; show 0 + cst (dg2 (dc1 cv D 36) N) N ≤ 8; omega)
  show (itr (fst3 wv N) N (dg2 (dc1 cv D 36) N, [])).2.length ≤ 8
  omega
theorem dsD_s {cv wv : Int32 → Int32 → Int32 → Int32} {N k : Nat} {D : Nat → Int32} : dsD cv wv N (k + 1) D = ((dayD cv wv N (dsD cv wv N k D).1).1, (dsD cv wv N k D).2 ++ (dayD cv wv N (dsD cv wv N k D).1).2) := rfl
theorem DW.days {cv wv : Int32 → Int32 → Int32 → Int32} {D : Nat → Int32} {N len0 len1 : Nat} {W0 W1 : Nat → Nat} (hN : N ≤ 8) (h : DW D N W0 len0 W1 len1) : ∀ k, DW (dsD cv wv N k D).1 N W0 len0 W1 len1 := by
  intro k
  induction k with
  | zero => exact h
  | succ k ih => exact ih.day hN
theorem dsD_x {cv wv : Int32 → Int32 → Int32 → Int32} {N : Nat} (hN : N ≤ 8) {D : Nat → Int32} {j : Nat} (hj : kpt j) : ∀ k, (dsD cv wv N k D).1 j = D j := by
  intro k
  induction k with
  | zero => rfl
  | succ k ih => rw [dsD_s]; show (dayD cv wv N (dsD cv wv N k D).1).1 j = D j; rw [dayD_x hN hj]; exact ih
theorem dsD_len {cv wv : Int32 → Int32 → Int32 → Int32} {N : Nat} (hN : N ≤ 8) {D : Nat → Int32} : ∀ k, (dsD cv wv N k D).2.length ≤ 8 * k := by
  intro k
  induction k with
  | zero => exact Nat.le_refl _
  | succ k ih =>
    rw [dsD_s, List.length_append]
    have := dayD_len (cv := cv) (wv := wv) hN (D := (dsD cv wv N k D).1)
    omega
theorem uS_18 {S : Nat → Int32} {fm : Nat} (ef : S 18 = nI fm) : uS S 18 (nI (fm + 0)) = S := by
  funext j
  by_cases hj : j = 18
  · subst hj; rw [uS_s, Nat.add_zero]; exact ef.symm
  · rw [uS_n hj]
/-- back from a thought -/
theorem bk {D D' g : Nat → Int32} (h : ∀ j, 106 ≤ j → D' j = D j) : cpN 106 (cpN 106 D g) D' = D := by
  funext j
  unfold cpN
  by_cases hj : j < 106
  · rw [if_pos hj, if_pos hj]
  · rw [if_neg hj]; exact h j (by omega)
abbrev M_Mo_daysGo : MD := (⟨"FelledByNamesModel", "daysGo", "(I)V"⟩, prog_14_method_42_code, 3, none, fun _ => True)
theorem d_Mo_daysGo_0 : decode prog_14_method_42_code 0 = .ok (.iconst 0, 1) := by decide +kernel
theorem d_Mo_daysGo_1 : decode prog_14_method_42_code 1 = .ok (.istore_n 2, 1) := by decide +kernel
theorem d_Mo_daysGo_2 : decode prog_14_method_42_code 2 = .ok (.iload_n 2, 1) := by decide +kernel
theorem d_Mo_daysGo_3 : decode prog_14_method_42_code 3 = .ok (.iload_n 1, 1) := by decide +kernel
theorem d_Mo_daysGo_4 : decode prog_14_method_42_code 4 = .ok (.if_icmp .ge 13, 3) := by decide +kernel
theorem d_Mo_daysGo_17 : decode prog_14_method_42_code 17 = .ok (.return_, 1) := by decide +kernel
theorem d_Mo_daysGo_7 : decode prog_14_method_42_code 7 = .ok (.aload_n 0, 1) := by decide +kernel
theorem d_Mo_daysGo_8 : decode prog_14_method_42_code 8 = .ok (.invokevirtual 186, 3) := by decide +kernel
theorem kB_Mo_dayGoes : kB M_Mo_dayGoes 0 := ⟨tm 15 (by decide +kernel) rfl, tm 1323 (by decide +kernel) rfl, ⟨by decide, by decide, by decide +kernel⟩, by decide⟩
theorem k_Mo_186_Mo_dayGoes_MoV : kV "FelledByNamesModel" 186 5 M_Mo_dayGoes 0 := ⟨kB_Mo_dayGoes, tm 1320 (by decide +kernel) rfl, tm 1322 (by decide +kernel) rfl, tp 36 (by decide +kernel) rfl, _, rfl, rfl⟩
theorem d_Mo_daysGo_11 : decode prog_14_method_42_code 11 = .ok (.iinc 2 1, 3) := by decide +kernel
theorem d_Mo_daysGo_14 : decode prog_14_method_42_code 14 = .ok (.goto (-12), 3) := by decide +kernel
set_option maxRecDepth 100000 in
theorem c_Mo_daysGo {k0 : Nat} {N fm len0 len1 : Nat} {W0 W1 : Nat → Nat} {l : Launch} {d q n : Nat} {D : Nat → Int32} {A : Nat → Nat → Int32} {S : Nat → Int32} {h0 : HP} {Q : QT} (hN : N ≤ 8) (hD : DW D N W0 len0 W1 len1) (hf : fm < 2 ^ 26) (ef : S 18 = nI fm) (hk0 : k0 ≤ 1000) (hQ : ∀ (A1 : Nat → Nat → Int32), (∀ j, j ≠ 4 → j ≠ 6 → j ≠ 7 → j ≠ 8 → j ≠ 9 → A1 j = A j) → A1 9 = wrl (A 9) fm (dsD (tgv 0 W0 len0) (tgv 1 W1 len1) N k0 D).2 → Q none n (mo q (dsD (tgv 0 W0 len0) (tgv 1 W1 len1) N k0 D).1 A1 (uS S 18 (nI (fm + (dsD (tgv 0 W0 len0) (tgv 1 W1 len1) N k0 D).2.length))) h0)) : Ct l M_Mo_daysGo (d + 6) 0 0 [.ref q, .int (nI k0)] n (mo q D A S h0) Q := by
  refine Ct.of (fun _ => trivial) (by decide) (Nat.le_of_ble_eq_true rfl) ?_
  refine V.iconst_ (nI 0) d_Mo_daysGo_0 (by decide +kernel) ?_
  refine V.istore_n d_Mo_daysGo_1 (by decide) ?_
  refine V.eqH (h' := mo q (dsD (tgv 0 W0 len0) (tgv 1 W1 len1) N 0 D).1 A (uS S 18 (nI (fm + (dsD (tgv 0 W0 len0) (tgv 1 W1 len1) N 0 D).2.length))) h0) (by show mo q D A S h0 = mo q D A (uS S 18 (nI (fm + 0))) h0; rw [uS_18 ef]) ?_
  refine V.lc (ls' := [(0, .ref q), (1, .int (nI k0)), (2, .int (nI 0))]) rfl ?_
  refine up_to (G := fun k => ∀ A1 : Nat → Nat → Int32, (∀ j, j ≠ 4 → j ≠ 6 → j ≠ 7 → j ≠ 8 → j ≠ 9 → A1 j = A j) → A1 9 = wrl (A 9) fm (dsD (tgv 0 W0 len0) (tgv 1 W1 len1) N k D).2 → V l M_Mo_daysGo (d + 6) 0 0 2 [(0, .ref q), (1, .int (nI k0)), (2, .int (nI k))] [] n (mo q (dsD (tgv 0 W0 len0) (tgv 1 W1 len1) N k D).1 A1 (uS S 18 (nI (fm + (dsD (tgv 0 W0 len0) (tgv 1 W1 len1) N k D).2.length))) h0) 0 0 Q) (k0) ?_ (fun k hk hn => ?_) 0 (by omega) A (fun _ _ _ _ _ _ => rfl) rfl
  · skip
    intro A1 hA1 hA91
    refine V.iload_n d_Mo_daysGo_2 rfl ?_
    refine V.iload_n d_Mo_daysGo_3 rfl ?_
    refine V.geN (tgt := 17) d_Mo_daysGo_4 (by decide) (by omega) (by omega) (fun c_4 => ?_) (fun c_4 => ?_)
    · skip
      refine V.vret d_Mo_daysGo_17 rfl (Nat.le_of_ble_eq_true rfl) (Nat.le_of_ble_eq_true rfl) ?_
      exact hQ A1 hA1 hA91
    · skip
      exact absurd c_4 (by omega)
  · skip
    intro A1 hA1 hA91
    have hX := hD.days (cv := tgv 0 W0 len0) (wv := tgv 1 W1 len1) hN k
    have hlen := dsD_len (cv := tgv 0 W0 len0) (wv := tgv 1 W1 len1) hN (D := D) k
    rw [dsD_s] at hn
    refine V.iload_n d_Mo_daysGo_2 rfl ?_
    refine V.iload_n d_Mo_daysGo_3 rfl ?_
    refine V.geN (tgt := 17) d_Mo_daysGo_4 (by decide) (by omega) (by omega) (fun c_4 => ?_) (fun c_4 => ?_)
    · skip
      exact absurd c_4 (by omega)
    · skip
      refine V.aload_n d_Mo_daysGo_7 rfl ?_
      refine V.callV0 d_Mo_daysGo_8 k_Mo_186_Mo_dayGoes_MoV mo_o (Nat.le_of_ble_eq_true rfl) (by omega) (by omega) (c_Mo_dayGoes hN hX.1 hX.2.1 hX.2.2.1 hX.2.2.2.1 (by omega) uS_s (fun A2 hA2 hA92 => ?_))
      refine V.incN d_Mo_daysGo_11 rfl (by decide) ?_
      refine V.goto (tgt := 2) d_Mo_daysGo_14 (by decide) ?_
      refine V.lc (ls' := [(0, .ref q), (1, .int (nI k0)), (2, .int (nI (k + 1)))]) rfl ?_
      refine V.eqH ?_ (hn A2 (fun j h1 h2 h3 h4 h5 => (hA2 j h1 h2 h3 h4 h5).trans (hA1 j h1 h2 h3 h4 h5)) ?_)
      · rw [uS_uu, List.length_append, Nat.add_assoc]
      · rw [hA92, hA91, wrl_cat]
abbrev M_Mo_standBehind : MD := (⟨"FelledByNamesModel", "standBehind", "(I)I"⟩, prog_14_method_58_code, 3, (some .int), fun _ => True)
theorem d_Mo_standBehind_0 : decode prog_14_method_58_code 0 = .ok (.aload_n 0, 1) := by decide +kernel
theorem d_Mo_standBehind_1 : decode prog_14_method_58_code 1 = .ok (.iload_n 1, 1) := by decide +kernel
theorem d_Mo_standBehind_2 : decode prog_14_method_58_code 2 = .ok (.invokevirtual 219, 3) := by decide +kernel
theorem kB_Mo_daysGo : kB M_Mo_daysGo 1 := ⟨tm 15 (by decide +kernel) rfl, tm 1319 (by decide +kernel) rfl, ⟨by decide, by decide, by decide +kernel⟩, by decide⟩
theorem k_Mo_219_Mo_daysGo_MoV : kV "FelledByNamesModel" 219 5 M_Mo_daysGo 1 := ⟨kB_Mo_daysGo, tm 1316 (by decide +kernel) rfl, tm 1318 (by decide +kernel) rfl, tp 35 (by decide +kernel) rfl, _, rfl, rfl⟩
theorem d_Mo_standBehind_5 : decode prog_14_method_58_code 5 = .ok (.aload_n 0, 1) := by decide +kernel
theorem d_Mo_standBehind_6 : decode prog_14_method_58_code 6 = .ok (.invokevirtual 234, 3) := by decide +kernel
theorem d_Mo_standBehind_9 : decode prog_14_method_58_code 9 = .ok (.istore_n 2, 1) := by decide +kernel
theorem d_Mo_standBehind_10 : decode prog_14_method_58_code 10 = .ok (.aload_n 0, 1) := by decide +kernel
theorem d_Mo_standBehind_11 : decode prog_14_method_58_code 11 = .ok (.invokevirtual 231, 3) := by decide +kernel
theorem kB_Mo_putBack : kB M_Mo_putBack 0 := ⟨tm 15 (by decide +kernel) rfl, tm 1358 (by decide +kernel) rfl, ⟨by decide, by decide, by decide +kernel⟩, by decide⟩
theorem k_Mo_231_Mo_putBack_MoV : kV "FelledByNamesModel" 231 5 M_Mo_putBack 0 := ⟨kB_Mo_putBack, tm 1355 (by decide +kernel) rfl, tm 1357 (by decide +kernel) rfl, tp 42 (by decide +kernel) rfl, _, rfl, rfl⟩
theorem d_Mo_standBehind_14 : decode prog_14_method_58_code 14 = .ok (.iload_n 2, 1) := by decide +kernel
theorem d_Mo_standBehind_15 : decode prog_14_method_58_code 15 = .ok (.ireturn, 1) := by decide +kernel
set_option maxRecDepth 100000 in
theorem c_Mo_standBehind {k0 : Nat} {N fm len0 len1 : Nat} {W0 W1 : Nat → Nat} {l : Launch} {d q n : Nat} {D : Nat → Int32} {A : Nat → Nat → Int32} {S : Nat → Int32} {h0 : HP} {Q : QT} (hN : N ≤ 8) (hD : DW D N W0 len0 W1 len1) (hf : fm < 2 ^ 26) (ef : S 18 = nI fm) (hk0 : k0 ≤ 1000) (hQ : ∀ (A1 : Nat → Nat → Int32), (∀ j, j ≠ 4 → j ≠ 6 → j ≠ 7 → j ≠ 8 → j ≠ 9 → A1 j = A j) → Q (some (.int (stb (dsD (tgv 0 W0 len0) (tgv 1 W1 len1) N k0 D).1 N))) n (mo q (cpN 106 (A 2) (dsD (tgv 0 W0 len0) (tgv 1 W1 len1) N k0 D).1) A1 (uS S 18 (nI (fm + (dsD (tgv 0 W0 len0) (tgv 1 W1 len1) N k0 D).2.length))) h0)) : Ct l M_Mo_standBehind (d + 7) 0 0 [.ref q, .int (nI k0)] n (mo q D A S h0) Q := by
  refine Ct.of (fun _ => trivial) (by decide) (Nat.le_of_ble_eq_true rfl) ?_
  refine V.aload_n d_Mo_standBehind_0 rfl ?_
  refine V.iload_n d_Mo_standBehind_1 rfl ?_
  refine V.callV1 d_Mo_standBehind_2 k_Mo_219_Mo_daysGo_MoV mo_o (Nat.le_of_ble_eq_true rfl) (by omega) (by omega) (c_Mo_daysGo hN hD (by omega) ef (by omega) (fun A2 hA2 hA92 => ?_))
  refine V.aload_n d_Mo_standBehind_5 rfl ?_
  refine V.callV0 d_Mo_standBehind_6 k_Mo_234_Mo_standing_MoV mo_o (Nat.le_of_ble_eq_true rfl) (by omega) (by omega) (c_Mo_standing hN (hD.days hN k0).1 ?_)
  refine V.istore_n d_Mo_standBehind_9 (by decide) ?_
  refine V.aload_n d_Mo_standBehind_10 rfl ?_
  refine V.callV0 d_Mo_standBehind_11 k_Mo_231_Mo_putBack_MoV mo_o (Nat.le_of_ble_eq_true rfl) (by omega) (by omega) (c_Mo_putBack ?_)
  rw [hA2 2 (by decide) (by decide) (by decide) (by decide) (by decide)]
  refine V.iload_n d_Mo_standBehind_14 rfl ?_
  refine V.iret d_Mo_standBehind_15 rfl (Nat.le_of_ble_eq_true rfl) (Nat.le_of_ble_eq_true rfl) ?_
  exact hQ A2 hA2
abbrev M_Mo_days : MD := (⟨"FelledByNamesModel", "days", "(I)I"⟩, prog_14_method_53_code, 2, (some .int), fun _ => True)
theorem d_Mo_days_0 : decode prog_14_method_53_code 0 = .ok (.iload_n 1, 1) := by decide +kernel
theorem d_Mo_days_1 : decode prog_14_method_53_code 1 = .ok (.i2l, 1) := by decide +kernel
theorem d_Mo_days_2 : decode prog_14_method_53_code 2 = .ok (.lconst 1, 1) := by decide +kernel
theorem d_Mo_days_3 : decode prog_14_method_53_code 3 = .ok (.ldc2_w 217, 3) := by decide +kernel
theorem d_Mo_days_6 : decode prog_14_method_53_code 6 = .ok (.invokestatic 56, 3) := by decide +kernel
theorem d_Mo_days_9 : decode prog_14_method_53_code 9 = .ok (.ifCond .ne 9, 3) := by decide +kernel
theorem d_Mo_days_18 : decode prog_14_method_53_code 18 = .ok (.aload_n 0, 1) := by decide +kernel
theorem d_Mo_days_19 : decode prog_14_method_53_code 19 = .ok (.getfield 7, 3) := by decide +kernel
theorem d_Mo_days_22 : decode prog_14_method_53_code 22 = .ok (.iconst 1, 1) := by decide +kernel
theorem d_Mo_days_23 : decode prog_14_method_53_code 23 = .ok (.iaload, 1) := by decide +kernel
theorem d_Mo_days_24 : decode prog_14_method_53_code 24 = .ok (.iload_n 1, 1) := by decide +kernel
theorem d_Mo_days_25 : decode prog_14_method_53_code 25 = .ok (.iadd, 1) := by decide +kernel
theorem d_Mo_days_26 : decode prog_14_method_53_code 26 = .ok (.sipush 9999, 3) := by decide +kernel
theorem d_Mo_days_29 : decode prog_14_method_53_code 29 = .ok (.if_icmp .le 9, 3) := by decide +kernel
theorem d_Mo_days_38 : decode prog_14_method_53_code 38 = .ok (.aload_n 0, 1) := by decide +kernel
theorem d_Mo_days_39 : decode prog_14_method_53_code 39 = .ok (.iconst 0, 1) := by decide +kernel
theorem d_Mo_days_40 : decode prog_14_method_53_code 40 = .ok (.putfield 168, 3) := by decide +kernel
theorem d_Mo_days_43 : decode prog_14_method_53_code 43 = .ok (.aload_n 0, 1) := by decide +kernel
theorem d_Mo_days_44 : decode prog_14_method_53_code 44 = .ok (.iload_n 1, 1) := by decide +kernel
theorem d_Mo_days_45 : decode prog_14_method_53_code 45 = .ok (.invokevirtual 219, 3) := by decide +kernel
theorem d_Mo_days_48 : decode prog_14_method_53_code 48 = .ok (.aload_n 0, 1) := by decide +kernel
theorem d_Mo_days_49 : decode prog_14_method_53_code 49 = .ok (.getfield 168, 3) := by decide +kernel
theorem d_Mo_days_52 : decode prog_14_method_53_code 52 = .ok (.ireturn, 1) := by decide +kernel
theorem d_Mo_days_32 : decode prog_14_method_53_code 32 = .ok (.aload_n 0, 1) := by decide +kernel
theorem d_Mo_days_33 : decode prog_14_method_53_code 33 = .ok (.iconst 3, 1) := by decide +kernel
theorem d_Mo_days_34 : decode prog_14_method_53_code 34 = .ok (.invokevirtual 138, 3) := by decide +kernel
theorem d_Mo_days_37 : decode prog_14_method_53_code 37 = .ok (.ireturn, 1) := by decide +kernel
theorem d_Mo_days_12 : decode prog_14_method_53_code 12 = .ok (.aload_n 0, 1) := by decide +kernel
theorem d_Mo_days_13 : decode prog_14_method_53_code 13 = .ok (.iconst 1, 1) := by decide +kernel
theorem d_Mo_days_14 : decode prog_14_method_53_code 14 = .ok (.invokevirtual 138, 3) := by decide +kernel
theorem d_Mo_days_17 : decode prog_14_method_53_code 17 = .ok (.ireturn, 1) := by decide +kernel
set_option maxRecDepth 100000 in
theorem c_Mo_days {dy : Nat} {x : Int32} {N fm len0 len1 : Nat} {W0 W1 : Nat → Nat} {l : Launch} {d q n : Nat} {D : Nat → Int32} {A : Nat → Nat → Int32} {S : Nat → Int32} {h0 : HP} {Q : QT} (hN : N ≤ 8) (hD : DW D N W0 len0 W1 len1) (hf : fm < 2 ^ 26) (ef : S 18 = nI fm) (hdy : dy ≤ 9999) (ed : D 1 = nI dy) (hE : wi x (nI 1) (nI 60) = false → Q (some (.int (-1000000000 - nI 1))) n (mo q D (uA A 3 (upd (A 3) 1 (A 3 1 + nI 1))) S h0)) (hS : ∀ k, 1 ≤ k → k ≤ 60 → x = nI k → 9999 < dy + k → Q (some (.int (-1000000000 - nI 3))) n (mo q D (uA A 3 (upd (A 3) 3 (A 3 3 + nI 1))) S h0)) (hOk : ∀ k, 1 ≤ k → k ≤ 60 → x = nI k → dy + k ≤ 9999 → ∀ (A1 : Nat → Nat → Int32), (∀ j, j ≠ 4 → j ≠ 6 → j ≠ 7 → j ≠ 8 → j ≠ 9 → A1 j = A j) → Q (some (.int (nI (dsD (tgv 0 W0 len0) (tgv 1 W1 len1) N k D).2.length))) n (mo q (dsD (tgv 0 W0 len0) (tgv 1 W1 len1) N k D).1 A1 (uS S 18 (nI (dsD (tgv 0 W0 len0) (tgv 1 W1 len1) N k D).2.length)) h0)) : Ct l M_Mo_days (d + 7) 0 0 [.ref q, .int x] n (mo q D A S h0) Q := by
  refine Ct.of (fun _ => trivial) (by decide) (Nat.le_of_ble_eq_true rfl) ?_
  refine V.iload_n d_Mo_days_0 rfl ?_
  refine V.i2l d_Mo_days_1 ?_
  refine V.lconst_ ((nI 1).toInt64) d_Mo_days_2 (by decide +kernel) ?_
  refine V.ldc2 (v := 60) d_Mo_days_3 (tm 1315 (by decide +kernel) rfl) ?_
  refine V.eqS (st' := .long ((nI 60).toInt64) :: _) rfl ?_
  refine V.callS3 d_Mo_days_6 k_Mo_56_Mo_inS (Nat.le_of_ble_eq_true rfl) (by omega) (by omega) (c_Mo_in ?_)
  refine V.ifneB (tgt := 18) d_Mo_days_9 (by decide) (fun c_9 => ?_) (fun c_9 => ?_)
  · skip
    obtain ⟨k, h1k, hk, rfl⟩ := wi_nat1 (by decide) c_9
    refine V.aload_n d_Mo_days_18 rfl ?_
    refine V.get d_Mo_days_19 f_Mo_7_Mo mo_o rfl ?_
    refine V.iconst_ (nI 1) d_Mo_days_22 (by decide +kernel) ?_
    refine V.mldd d_Mo_days_23 (by omega) ?_
    refine V.top ed ?_
    refine V.iload_n d_Mo_days_24 rfl ?_
    refine V.addN d_Mo_days_25 ?_
    refine V.sipush_ (nI 9999) d_Mo_days_26 (by decide +kernel) ?_
    refine V.leN (tgt := 38) d_Mo_days_29 (by decide) (by omega) (by omega) (fun c_29 => ?_) (fun c_29 => ?_)
    · skip
      refine V.aload_n d_Mo_days_38 rfl ?_
      refine V.iconst_ (nI 0) d_Mo_days_39 (by decide +kernel) ?_
      refine V.mput d_Mo_days_40 f_Mo_168_Mo fp_Mo_18 rfl (by decide) ?_
      refine V.aload_n d_Mo_days_43 rfl ?_
      refine V.iload_n d_Mo_days_44 rfl ?_
      refine V.callV1 d_Mo_days_45 k_Mo_219_Mo_daysGo_MoV mo_o (Nat.le_of_ble_eq_true rfl) (by omega) (by omega) (c_Mo_daysGo (fm := 0) hN hD (by decide) uS_s (by omega) (fun A2 hA2 hA92 => ?_))
      refine V.aload_n d_Mo_days_48 rfl ?_
      refine V.get d_Mo_days_49 f_Mo_168_Mo mo_o rfl ?_
      simp only [uS_uu, uS_s, Nat.zero_add]
      refine V.iret d_Mo_days_52 rfl (Nat.le_of_ble_eq_true rfl) (Nat.le_of_ble_eq_true rfl) ?_
      exact hOk k h1k hk rfl (by omega) A2 hA2
    · skip
      refine V.aload_n d_Mo_days_32 rfl ?_
      refine V.iconst_ (nI 3) d_Mo_days_33 (by decide +kernel) ?_
      refine V.callV1 d_Mo_days_34 k_Mo_138_Mo_finds_MoV mo_o (Nat.le_of_ble_eq_true rfl) (by omega) (by omega) (c_Mo_finds (by omega) ?_)
      refine V.iret d_Mo_days_37 rfl (Nat.le_of_ble_eq_true rfl) (Nat.le_of_ble_eq_true rfl) ?_
      exact hS k h1k hk rfl (by omega)
  · skip
    refine V.aload_n d_Mo_days_12 rfl ?_
    refine V.iconst_ (nI 1) d_Mo_days_13 (by decide +kernel) ?_
    refine V.callV1 d_Mo_days_14 k_Mo_138_Mo_finds_MoV mo_o (Nat.le_of_ble_eq_true rfl) (by omega) (by omega) (c_Mo_finds (by omega) ?_)
    refine V.iret d_Mo_days_17 rfl (Nat.le_of_ble_eq_true rfl) (Nat.le_of_ble_eq_true rfl) ?_
    exact hE c_9
abbrev M_Mo_then : MD := (⟨"FelledByNamesModel", "then", "(III)I"⟩, prog_14_method_56_code, 5, (some .int), fun _ => True)
theorem d_Mo_then_0 : decode prog_14_method_56_code 0 = .ok (.iload_n 1, 1) := by decide +kernel
theorem d_Mo_then_1 : decode prog_14_method_56_code 1 = .ok (.i2l, 1) := by decide +kernel
theorem d_Mo_then_2 : decode prog_14_method_56_code 2 = .ok (.lconst 0, 1) := by decide +kernel
theorem d_Mo_then_3 : decode prog_14_method_56_code 3 = .ok (.ldc2_w 217, 3) := by decide +kernel
theorem d_Mo_then_6 : decode prog_14_method_56_code 6 = .ok (.invokestatic 56, 3) := by decide +kernel
theorem d_Mo_then_9 : decode prog_14_method_56_code 9 = .ok (.ifCond .eq 11, 3) := by decide +kernel
theorem d_Mo_then_20 : decode prog_14_method_56_code 20 = .ok (.aload_n 0, 1) := by decide +kernel
theorem d_Mo_then_21 : decode prog_14_method_56_code 21 = .ok (.iconst 1, 1) := by decide +kernel
theorem d_Mo_then_22 : decode prog_14_method_56_code 22 = .ok (.invokevirtual 138, 3) := by decide +kernel
theorem d_Mo_then_25 : decode prog_14_method_56_code 25 = .ok (.ireturn, 1) := by decide +kernel
theorem d_Mo_then_12 : decode prog_14_method_56_code 12 = .ok (.iload_n 2, 1) := by decide +kernel
theorem d_Mo_then_13 : decode prog_14_method_56_code 13 = .ok (.iload_n 3, 1) := by decide +kernel
theorem d_Mo_then_14 : decode prog_14_method_56_code 14 = .ok (.invokestatic 189, 3) := by decide +kernel
theorem d_Mo_then_17 : decode prog_14_method_56_code 17 = .ok (.ifCond .ne 9, 3) := by decide +kernel
theorem d_Mo_then_26 : decode prog_14_method_56_code 26 = .ok (.aload_n 0, 1) := by decide +kernel
theorem d_Mo_then_27 : decode prog_14_method_56_code 27 = .ok (.invokevirtual 228, 3) := by decide +kernel
theorem kB_Mo_keepAside : kB M_Mo_keepAside 0 := ⟨tm 15 (by decide +kernel) rfl, tm 1354 (by decide +kernel) rfl, ⟨by decide, by decide, by decide +kernel⟩, by decide⟩
theorem k_Mo_228_Mo_keepAside_MoV : kV "FelledByNamesModel" 228 5 M_Mo_keepAside 0 := ⟨kB_Mo_keepAside, tm 1351 (by decide +kernel) rfl, tm 1353 (by decide +kernel) rfl, tp 41 (by decide +kernel) rfl, _, rfl, rfl⟩
theorem d_Mo_then_30 : decode prog_14_method_56_code 30 = .ok (.aload_n 0, 1) := by decide +kernel
theorem d_Mo_then_31 : decode prog_14_method_56_code 31 = .ok (.iload_n 1, 1) := by decide +kernel
theorem d_Mo_then_32 : decode prog_14_method_56_code 32 = .ok (.invokevirtual 219, 3) := by decide +kernel
theorem d_Mo_then_35 : decode prog_14_method_56_code 35 = .ok (.aload_n 0, 1) := by decide +kernel
theorem d_Mo_then_36 : decode prog_14_method_56_code 36 = .ok (.iload_n 2, 1) := by decide +kernel
theorem d_Mo_then_37 : decode prog_14_method_56_code 37 = .ok (.iload_n 3, 1) := by decide +kernel
theorem d_Mo_then_38 : decode prog_14_method_56_code 38 = .ok (.invokevirtual 180, 3) := by decide +kernel
theorem d_Mo_then_41 : decode prog_14_method_56_code 41 = .ok (.istore 4, 2) := by decide +kernel
theorem d_Mo_then_43 : decode prog_14_method_56_code 43 = .ok (.aload_n 0, 1) := by decide +kernel
theorem d_Mo_then_44 : decode prog_14_method_56_code 44 = .ok (.invokevirtual 231, 3) := by decide +kernel
theorem d_Mo_then_47 : decode prog_14_method_56_code 47 = .ok (.iload 4, 2) := by decide +kernel
theorem d_Mo_then_49 : decode prog_14_method_56_code 49 = .ok (.ireturn, 1) := by decide +kernel
set_option maxRecDepth 100000 in
theorem c_Mo_then {x y z : Int32} {N fm len0 len1 : Nat} {W0 W1 : Nat → Nat} {l : Launch} {d q n : Nat} {D : Nat → Int32} {A : Nat → Nat → Int32} {S : Nat → Int32} {h0 : HP} {Q : QT} (hN : N ≤ 8) (hD : DW D N W0 len0 W1 len1) (hf : fm < 2 ^ 26) (ef : S 18 = nI fm) (hE : (wi x (nI 0) (nI 60) && two y z) = false → Q (some (.int (-1000000000 - nI 1))) n (mo q D (uA A 3 (upd (A 3) 1 (A 3 1 + nI 1))) S h0)) (hOk : ∀ k a b, k ≤ 60 → a ≤ 5 → b ≤ 5 → a ≠ b → x = nI k → y = nI a → z = nI b → ∀ (A1 : Nat → Nat → Int32) (f1 : Nat), (∀ j, j ≠ 2 → j ≠ 4 → j ≠ 6 → j ≠ 7 → j ≠ 8 → j ≠ 9 → A1 j = A j) → f1 ≤ fm + 8000 →  Q (some (.int ((dsD (tgv 0 W0 len0) (tgv 1 W1 len1) N k D).1 (8 + 6 * a + b)))) n (mo q D A1 (uS S 18 (nI f1)) h0)) : Ct l M_Mo_then (d + 7) 0 0 [.ref q, .int x, .int y, .int z] n (mo q D A S h0) Q := by
  refine Ct.of (fun _ => trivial) (by decide) (Nat.le_of_ble_eq_true rfl) ?_
  refine V.iload_n d_Mo_then_0 rfl ?_
  refine V.i2l d_Mo_then_1 ?_
  refine V.lconst_ ((nI 0).toInt64) d_Mo_then_2 (by decide +kernel) ?_
  refine V.ldc2 (v := 60) d_Mo_then_3 (tm 1315 (by decide +kernel) rfl) ?_
  refine V.eqS (st' := .long ((nI 60).toInt64) :: _) rfl ?_
  refine V.callS3 d_Mo_then_6 k_Mo_56_Mo_inS (Nat.le_of_ble_eq_true rfl) (by omega) (by omega) (c_Mo_in ?_)
  refine V.ifeqB (tgt := 20) d_Mo_then_9 (by decide) (fun c_9 => ?_) (fun c_9 => ?_)
  · skip
    refine V.aload_n d_Mo_then_20 rfl ?_
    refine V.iconst_ (nI 1) d_Mo_then_21 (by decide +kernel) ?_
    refine V.callV1 d_Mo_then_22 k_Mo_138_Mo_finds_MoV mo_o (Nat.le_of_ble_eq_true rfl) (by omega) (by omega) (c_Mo_finds (by omega) ?_)
    refine V.iret d_Mo_then_25 rfl (Nat.le_of_ble_eq_true rfl) (Nat.le_of_ble_eq_true rfl) ?_
    exact hE (by simp only [c_9, Bool.and_false, Bool.false_and, Bool.and_true, Bool.true_and])
  · skip
    refine V.iload_n d_Mo_then_12 rfl ?_
    refine V.iload_n d_Mo_then_13 rfl ?_
    refine V.callS2 d_Mo_then_14 k_Mo_189_Mo_areTwoS (Nat.le_of_ble_eq_true rfl) (by omega) (by omega) (c_Mo_areTwo ?_)
    refine V.ifneB (tgt := 26) d_Mo_then_17 (by decide) (fun c_17 => ?_) (fun c_17 => ?_)
    · skip
      obtain ⟨k, hk, rfl⟩ := wi_nat (by decide) c_9
      obtain ⟨a, b, ha, hb, hab, rfl, rfl⟩ := two_nat c_17
      refine V.aload_n d_Mo_then_26 rfl ?_
      refine V.callV0 d_Mo_then_27 k_Mo_228_Mo_keepAside_MoV mo_o (Nat.le_of_ble_eq_true rfl) (by omega) (by omega) (c_Mo_keepAside ?_)
      refine V.aload_n d_Mo_then_30 rfl ?_
      refine V.iload_n d_Mo_then_31 rfl ?_
      refine V.callV1 d_Mo_then_32 k_Mo_219_Mo_daysGo_MoV mo_o (Nat.le_of_ble_eq_true rfl) (by omega) (by omega) (c_Mo_daysGo hN hD (by omega) ef (by omega) (fun A2 hA2 hA92 => ?_))
      refine V.aload_n d_Mo_then_35 rfl ?_
      refine V.iload_n d_Mo_then_36 rfl ?_
      refine V.iload_n d_Mo_then_37 rfl ?_
      refine V.callV2 d_Mo_then_38 k_Mo_180_Mo_hold0_MoV mo_o (Nat.le_of_ble_eq_true rfl) (by omega) (by omega) (c_Mo_hold0 (by omega) ?_)
      refine V.istore d_Mo_then_41 (by decide) ?_
      refine V.aload_n d_Mo_then_43 rfl ?_
      refine V.callV0 d_Mo_then_44 k_Mo_231_Mo_putBack_MoV mo_o (Nat.le_of_ble_eq_true rfl) (by omega) (by omega) (c_Mo_putBack ?_)
      rw [hA2 2 (by decide) (by decide) (by decide) (by decide) (by decide), uA_s, bk (fun j hj => dsD_x hN (by unfold kpt; omega) _)]
      refine V.iload d_Mo_then_47 rfl ?_
      refine V.iret d_Mo_then_49 rfl (Nat.le_of_ble_eq_true rfl) (Nat.le_of_ble_eq_true rfl) ?_
      exact hOk k a b hk ha hb hab rfl rfl rfl A2 _ (fun j h1 h2 h3 h4 h5 h6 => by rw [hA2 j h2 h3 h4 h5 h6, uA_n h1]) (by have := dsD_len (cv := tgv 0 W0 len0) (wv := tgv 1 W1 len1) hN (D := D) k; omega)
    · skip
      refine V.aload_n d_Mo_then_20 rfl ?_
      refine V.iconst_ (nI 1) d_Mo_then_21 (by decide +kernel) ?_
      refine V.callV1 d_Mo_then_22 k_Mo_138_Mo_finds_MoV mo_o (Nat.le_of_ble_eq_true rfl) (by omega) (by omega) (c_Mo_finds (by omega) ?_)
      refine V.iret d_Mo_then_25 rfl (Nat.le_of_ble_eq_true rfl) (Nat.le_of_ble_eq_true rfl) ?_
      exact hE (by simp only [c_9, c_17, Bool.and_false, Bool.false_and, Bool.and_true, Bool.true_and])
abbrev M_Mo_timber : MD := (⟨"FelledByNamesModel", "timber", "(I)I"⟩, prog_14_method_66_code, 3, (some .int), fun _ => True)
theorem d_Mo_timber_0 : decode prog_14_method_66_code 0 = .ok (.iload_n 1, 1) := by decide +kernel
theorem d_Mo_timber_1 : decode prog_14_method_66_code 1 = .ok (.i2l, 1) := by decide +kernel
theorem d_Mo_timber_2 : decode prog_14_method_66_code 2 = .ok (.lconst 0, 1) := by decide +kernel
theorem d_Mo_timber_3 : decode prog_14_method_66_code 3 = .ok (.ldc2_w 217, 3) := by decide +kernel
theorem d_Mo_timber_6 : decode prog_14_method_66_code 6 = .ok (.invokestatic 56, 3) := by decide +kernel
theorem d_Mo_timber_9 : decode prog_14_method_66_code 9 = .ok (.ifCond .ne 9, 3) := by decide +kernel
theorem d_Mo_timber_18 : decode prog_14_method_66_code 18 = .ok (.aload_n 0, 1) := by decide +kernel
theorem d_Mo_timber_19 : decode prog_14_method_66_code 19 = .ok (.invokevirtual 228, 3) := by decide +kernel
theorem d_Mo_timber_22 : decode prog_14_method_66_code 22 = .ok (.aload_n 0, 1) := by decide +kernel
theorem d_Mo_timber_23 : decode prog_14_method_66_code 23 = .ok (.iload_n 1, 1) := by decide +kernel
theorem d_Mo_timber_24 : decode prog_14_method_66_code 24 = .ok (.invokevirtual 219, 3) := by decide +kernel
theorem d_Mo_timber_27 : decode prog_14_method_66_code 27 = .ok (.aload_n 0, 1) := by decide +kernel
theorem d_Mo_timber_28 : decode prog_14_method_66_code 28 = .ok (.getfield 7, 3) := by decide +kernel
theorem d_Mo_timber_31 : decode prog_14_method_66_code 31 = .ok (.iconst 4, 1) := by decide +kernel
theorem d_Mo_timber_32 : decode prog_14_method_66_code 32 = .ok (.iaload, 1) := by decide +kernel
theorem d_Mo_timber_33 : decode prog_14_method_66_code 33 = .ok (.istore_n 2, 1) := by decide +kernel
theorem d_Mo_timber_34 : decode prog_14_method_66_code 34 = .ok (.aload_n 0, 1) := by decide +kernel
theorem d_Mo_timber_35 : decode prog_14_method_66_code 35 = .ok (.invokevirtual 231, 3) := by decide +kernel
theorem d_Mo_timber_38 : decode prog_14_method_66_code 38 = .ok (.iload_n 2, 1) := by decide +kernel
theorem d_Mo_timber_39 : decode prog_14_method_66_code 39 = .ok (.aload_n 0, 1) := by decide +kernel
theorem d_Mo_timber_40 : decode prog_14_method_66_code 40 = .ok (.getfield 7, 3) := by decide +kernel
theorem d_Mo_timber_43 : decode prog_14_method_66_code 43 = .ok (.iconst 4, 1) := by decide +kernel
theorem d_Mo_timber_44 : decode prog_14_method_66_code 44 = .ok (.iaload, 1) := by decide +kernel
theorem d_Mo_timber_45 : decode prog_14_method_66_code 45 = .ok (.isub, 1) := by decide +kernel
theorem d_Mo_timber_46 : decode prog_14_method_66_code 46 = .ok (.ireturn, 1) := by decide +kernel
theorem d_Mo_timber_12 : decode prog_14_method_66_code 12 = .ok (.aload_n 0, 1) := by decide +kernel
theorem d_Mo_timber_13 : decode prog_14_method_66_code 13 = .ok (.iconst 1, 1) := by decide +kernel
theorem d_Mo_timber_14 : decode prog_14_method_66_code 14 = .ok (.invokevirtual 138, 3) := by decide +kernel
theorem d_Mo_timber_17 : decode prog_14_method_66_code 17 = .ok (.ireturn, 1) := by decide +kernel
set_option maxRecDepth 100000 in
theorem c_Mo_timber {x : Int32} {N fm len0 len1 : Nat} {W0 W1 : Nat → Nat} {l : Launch} {d q n : Nat} {D : Nat → Int32} {A : Nat → Nat → Int32} {S : Nat → Int32} {h0 : HP} {Q : QT} (hN : N ≤ 8) (hD : DW D N W0 len0 W1 len1) (hf : fm < 2 ^ 26) (ef : S 18 = nI fm) (hE : wi x (nI 0) (nI 60) = false → Q (some (.int (-1000000000 - nI 1))) n (mo q D (uA A 3 (upd (A 3) 1 (A 3 1 + nI 1))) S h0)) (hOk : ∀ k, k ≤ 60 → x = nI k → ∀ (A1 : Nat → Nat → Int32) (f1 : Nat), (∀ j, j ≠ 2 → j ≠ 4 → j ≠ 6 → j ≠ 7 → j ≠ 8 → j ≠ 9 → A1 j = A j) → f1 ≤ fm + 8000 →  Q (some (.int ((dsD (tgv 0 W0 len0) (tgv 1 W1 len1) N k D).1 4 - D 4))) n (mo q D A1 (uS S 18 (nI f1)) h0)) : Ct l M_Mo_timber (d + 7) 0 0 [.ref q, .int x] n (mo q D A S h0) Q := by
  refine Ct.of (fun _ => trivial) (by decide) (Nat.le_of_ble_eq_true rfl) ?_
  refine V.iload_n d_Mo_timber_0 rfl ?_
  refine V.i2l d_Mo_timber_1 ?_
  refine V.lconst_ ((nI 0).toInt64) d_Mo_timber_2 (by decide +kernel) ?_
  refine V.ldc2 (v := 60) d_Mo_timber_3 (tm 1315 (by decide +kernel) rfl) ?_
  refine V.eqS (st' := .long ((nI 60).toInt64) :: _) rfl ?_
  refine V.callS3 d_Mo_timber_6 k_Mo_56_Mo_inS (Nat.le_of_ble_eq_true rfl) (by omega) (by omega) (c_Mo_in ?_)
  refine V.ifneB (tgt := 18) d_Mo_timber_9 (by decide) (fun c_9 => ?_) (fun c_9 => ?_)
  · skip
    obtain ⟨k, hk, rfl⟩ := wi_nat (by decide) c_9
    refine V.aload_n d_Mo_timber_18 rfl ?_
    refine V.callV0 d_Mo_timber_19 k_Mo_228_Mo_keepAside_MoV mo_o (Nat.le_of_ble_eq_true rfl) (by omega) (by omega) (c_Mo_keepAside ?_)
    refine V.aload_n d_Mo_timber_22 rfl ?_
    refine V.iload_n d_Mo_timber_23 rfl ?_
    refine V.callV1 d_Mo_timber_24 k_Mo_219_Mo_daysGo_MoV mo_o (Nat.le_of_ble_eq_true rfl) (by omega) (by omega) (c_Mo_daysGo hN hD (by omega) ef (by omega) (fun A2 hA2 hA92 => ?_))
    refine V.aload_n d_Mo_timber_27 rfl ?_
    refine V.get d_Mo_timber_28 f_Mo_7_Mo mo_o rfl ?_
    refine V.iconst_ (nI 4) d_Mo_timber_31 (by decide +kernel) ?_
    refine V.mldd d_Mo_timber_32 (by omega) ?_
    refine V.istore_n d_Mo_timber_33 (by decide) ?_
    refine V.aload_n d_Mo_timber_34 rfl ?_
    refine V.callV0 d_Mo_timber_35 k_Mo_231_Mo_putBack_MoV mo_o (Nat.le_of_ble_eq_true rfl) (by omega) (by omega) (c_Mo_putBack ?_)
    rw [hA2 2 (by decide) (by decide) (by decide) (by decide) (by decide), uA_s, bk (fun j hj => dsD_x hN (by unfold kpt; omega) _)]
    refine V.iload_n d_Mo_timber_38 rfl ?_
    refine V.aload_n d_Mo_timber_39 rfl ?_
    refine V.get d_Mo_timber_40 f_Mo_7_Mo mo_o rfl ?_
    refine V.iconst_ (nI 4) d_Mo_timber_43 (by decide +kernel) ?_
    refine V.mldd d_Mo_timber_44 (by omega) ?_
    refine V.isub d_Mo_timber_45 ?_
    refine V.iret d_Mo_timber_46 rfl (Nat.le_of_ble_eq_true rfl) (Nat.le_of_ble_eq_true rfl) ?_
    exact hOk k hk rfl A2 _ (fun j h1 h2 h3 h4 h5 h6 => by rw [hA2 j h2 h3 h4 h5 h6, uA_n h1]) (by have := dsD_len (cv := tgv 0 W0 len0) (wv := tgv 1 W1 len1) hN (D := D) k; omega)
  · skip
    refine V.aload_n d_Mo_timber_12 rfl ?_
    refine V.iconst_ (nI 1) d_Mo_timber_13 (by decide +kernel) ?_
    refine V.callV1 d_Mo_timber_14 k_Mo_138_Mo_finds_MoV mo_o (Nat.le_of_ble_eq_true rfl) (by omega) (by omega) (c_Mo_finds (by omega) ?_)
    refine V.iret d_Mo_timber_17 rfl (Nat.le_of_ble_eq_true rfl) (Nat.le_of_ble_eq_true rfl) ?_
    exact hE c_9
abbrev M_Mo_down : MD := (⟨"FelledByNamesModel", "down", "(I)I"⟩, prog_14_method_59_code, 2, (some .int), fun _ => True)
theorem d_Mo_down_0 : decode prog_14_method_59_code 0 = .ok (.iload_n 1, 1) := by decide +kernel
theorem d_Mo_down_1 : decode prog_14_method_59_code 1 = .ok (.i2l, 1) := by decide +kernel
theorem d_Mo_down_2 : decode prog_14_method_59_code 2 = .ok (.lconst 0, 1) := by decide +kernel
theorem d_Mo_down_3 : decode prog_14_method_59_code 3 = .ok (.ldc2_w 217, 3) := by decide +kernel
theorem d_Mo_down_6 : decode prog_14_method_59_code 6 = .ok (.invokestatic 56, 3) := by decide +kernel
theorem d_Mo_down_9 : decode prog_14_method_59_code 9 = .ok (.ifCond .ne 9, 3) := by decide +kernel
theorem d_Mo_down_18 : decode prog_14_method_59_code 18 = .ok (.aload_n 0, 1) := by decide +kernel
theorem d_Mo_down_19 : decode prog_14_method_59_code 19 = .ok (.invokevirtual 228, 3) := by decide +kernel
theorem d_Mo_down_22 : decode prog_14_method_59_code 22 = .ok (.iconst 1, 1) := by decide +kernel
theorem d_Mo_down_23 : decode prog_14_method_59_code 23 = .ok (.aload_n 0, 1) := by decide +kernel
theorem d_Mo_down_24 : decode prog_14_method_59_code 24 = .ok (.getfield 7, 3) := by decide +kernel
theorem d_Mo_down_27 : decode prog_14_method_59_code 27 = .ok (.iconst 0, 1) := by decide +kernel
theorem d_Mo_down_28 : decode prog_14_method_59_code 28 = .ok (.iaload, 1) := by decide +kernel
theorem d_Mo_down_29 : decode prog_14_method_59_code 29 = .ok (.ishl, 1) := by decide +kernel
theorem d_Mo_down_30 : decode prog_14_method_59_code 30 = .ok (.iconst 1, 1) := by decide +kernel
theorem d_Mo_down_31 : decode prog_14_method_59_code 31 = .ok (.isub, 1) := by decide +kernel
theorem d_Mo_down_32 : decode prog_14_method_59_code 32 = .ok (.aload_n 0, 1) := by decide +kernel
theorem d_Mo_down_33 : decode prog_14_method_59_code 33 = .ok (.iload_n 1, 1) := by decide +kernel
theorem d_Mo_down_34 : decode prog_14_method_59_code 34 = .ok (.invokevirtual 237, 3) := by decide +kernel
theorem kB_Mo_standBehind : kB M_Mo_standBehind 1 := ⟨tm 15 (by decide +kernel) rfl, tm 1370 (by decide +kernel) rfl, ⟨by decide, by decide, by decide +kernel⟩, by decide⟩
theorem k_Mo_237_Mo_standBehind_MoV : kV "FelledByNamesModel" 237 5 M_Mo_standBehind 1 := ⟨kB_Mo_standBehind, tm 1367 (by decide +kernel) rfl, tm 1369 (by decide +kernel) rfl, tp 43 (by decide +kernel) rfl, _, rfl, rfl⟩
theorem d_Mo_down_37 : decode prog_14_method_59_code 37 = .ok (.iconst (-1), 1) := by decide +kernel
theorem d_Mo_down_38 : decode prog_14_method_59_code 38 = .ok (.ixor, 1) := by decide +kernel
theorem d_Mo_down_39 : decode prog_14_method_59_code 39 = .ok (.iand, 1) := by decide +kernel
theorem d_Mo_down_40 : decode prog_14_method_59_code 40 = .ok (.ireturn, 1) := by decide +kernel
theorem d_Mo_down_12 : decode prog_14_method_59_code 12 = .ok (.aload_n 0, 1) := by decide +kernel
theorem d_Mo_down_13 : decode prog_14_method_59_code 13 = .ok (.iconst 1, 1) := by decide +kernel
theorem d_Mo_down_14 : decode prog_14_method_59_code 14 = .ok (.invokevirtual 138, 3) := by decide +kernel
theorem d_Mo_down_17 : decode prog_14_method_59_code 17 = .ok (.ireturn, 1) := by decide +kernel
set_option maxRecDepth 100000 in
theorem c_Mo_down {x : Int32} {N fm len0 len1 : Nat} {W0 W1 : Nat → Nat} {l : Launch} {d q n : Nat} {D : Nat → Int32} {A : Nat → Nat → Int32} {S : Nat → Int32} {h0 : HP} {Q : QT} (hN : N ≤ 8) (hD : DW D N W0 len0 W1 len1) (hf : fm < 2 ^ 26) (ef : S 18 = nI fm) (hE : wi x (nI 0) (nI 60) = false → Q (some (.int (-1000000000 - nI 1))) n (mo q D (uA A 3 (upd (A 3) 1 (A 3 1 + nI 1))) S h0)) (hOk : ∀ k, k ≤ 60 → x = nI k → ∀ (A1 : Nat → Nat → Int32) (f1 : Nat), (∀ j, j ≠ 2 → j ≠ 4 → j ≠ 6 → j ≠ 7 → j ≠ 8 → j ≠ 9 → A1 j = A j) → f1 ≤ fm + 8000 →  Q (some (.int (((nI 1 <<< (nI N &&& 31)) - nI 1) &&& (stb (dsD (tgv 0 W0 len0) (tgv 1 W1 len1) N k D).1 N ^^^ -1)))) n (mo q D A1 (uS S 18 (nI f1)) h0)) : Ct l M_Mo_down (d + 8) 0 0 [.ref q, .int x] n (mo q D A S h0) Q := by
  refine Ct.of (fun _ => trivial) (by decide) (Nat.le_of_ble_eq_true rfl) ?_
  refine V.iload_n d_Mo_down_0 rfl ?_
  refine V.i2l d_Mo_down_1 ?_
  refine V.lconst_ ((nI 0).toInt64) d_Mo_down_2 (by decide +kernel) ?_
  refine V.ldc2 (v := 60) d_Mo_down_3 (tm 1315 (by decide +kernel) rfl) ?_
  refine V.eqS (st' := .long ((nI 60).toInt64) :: _) rfl ?_
  refine V.callS3 d_Mo_down_6 k_Mo_56_Mo_inS (Nat.le_of_ble_eq_true rfl) (by omega) (by omega) (c_Mo_in ?_)
  refine V.ifneB (tgt := 18) d_Mo_down_9 (by decide) (fun c_9 => ?_) (fun c_9 => ?_)
  · skip
    obtain ⟨k, hk, rfl⟩ := wi_nat (by decide) c_9
    refine V.aload_n d_Mo_down_18 rfl ?_
    refine V.callV0 d_Mo_down_19 k_Mo_228_Mo_keepAside_MoV mo_o (Nat.le_of_ble_eq_true rfl) (by omega) (by omega) (c_Mo_keepAside ?_)
    refine V.iconst_ (nI 1) d_Mo_down_22 (by decide +kernel) ?_
    refine V.aload_n d_Mo_down_23 rfl ?_
    refine V.get d_Mo_down_24 f_Mo_7_Mo mo_o rfl ?_
    refine V.iconst_ (nI 0) d_Mo_down_27 (by decide +kernel) ?_
    refine V.mldd d_Mo_down_28 (by omega) ?_
    refine V.top hD.1 ?_
    refine V.ishl d_Mo_down_29 ?_
    refine V.iconst_ (nI 1) d_Mo_down_30 (by decide +kernel) ?_
    refine V.isub d_Mo_down_31 ?_
    refine V.aload_n d_Mo_down_32 rfl ?_
    refine V.iload_n d_Mo_down_33 rfl ?_
    refine V.callV1 d_Mo_down_34 k_Mo_237_Mo_standBehind_MoV mo_o (Nat.le_of_ble_eq_true rfl) (by omega) (by omega) (c_Mo_standBehind hN hD (by omega) ef (by omega) (fun A2 hA2 => ?_))
    rw [uA_s, bk (fun j hj => dsD_x hN (by unfold kpt; omega) _)]
    refine V.iconst_ (-1) d_Mo_down_37 (by decide +kernel) ?_
    refine V.ixor d_Mo_down_38 ?_
    refine V.iand d_Mo_down_39 ?_
    refine V.iret d_Mo_down_40 rfl (Nat.le_of_ble_eq_true rfl) (Nat.le_of_ble_eq_true rfl) ?_
    exact hOk k hk rfl A2 _ (fun j h1 h2 h3 h4 h5 h6 => by rw [hA2 j h2 h3 h4 h5 h6, uA_n h1]) (by have := dsD_len (cv := tgv 0 W0 len0) (wv := tgv 1 W1 len1) hN (D := D) k; omega)
  · skip
    refine V.aload_n d_Mo_down_12 rfl ?_
    refine V.iconst_ (nI 1) d_Mo_down_13 (by decide +kernel) ?_
    refine V.callV1 d_Mo_down_14 k_Mo_138_Mo_finds_MoV mo_o (Nat.le_of_ble_eq_true rfl) (by omega) (by omega) (c_Mo_finds (by omega) ?_)
    refine V.iret d_Mo_down_17 rfl (Nat.le_of_ble_eq_true rfl) (Nat.le_of_ble_eq_true rfl) ?_
    exact hE c_9
