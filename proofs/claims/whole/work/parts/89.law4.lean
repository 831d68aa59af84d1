/-! ===== the class and the reference when both have been made ===== -/
theorem WB_of {D : Nat → Int32} (h : ∀ j, j < 106 → (j = 0 ∨ (2 ≤ j ∧ j ≤ 4) ∨ 8 ≤ j) → (D j).toNatClampNeg ≤ bnd j ∧ D j = nI (D j).toNatClampNeg) : WB D := fun j hj => ⟨_, (h j (by omega) (by omega)).1, (h j (by omega) (by omega)).2⟩
theorem WB_E0 : WB E0 := WB_of (by decide +kernel)
theorem WB_D0 : WB D0 := WB_of (by decide +kernel)
def Wi0 : Nat → Nat := fun k => [0, 10001, 20045].getD k 0
def Wi1 : Nat → Nat := fun k => [10000].getD k 0
theorem Wf_0 : Wf Wi0 3 := ⟨by decide, fun k hk => by
  rcases (show k = 0 ∨ k = 1 ∨ k = 2 by omega) with rfl | rfl | rfl <;> (unfold okw; decide +kernel), by decide +kernel⟩
theorem Wf_1 : Wf Wi1 1 := ⟨by decide, fun k hk => by
  rcases (show k = 0 by omega) with rfl
  unfold okw; decide +kernel, by decide +kernel⟩
theorem ev_0 (a b c : Int32) : evc a b c Wi0 3 = -b := by
  show nI 0 - b = -b
  exact Int32.zero_sub b
theorem ev_1 (a b c : Int32) : evc a b c Wi1 1 = a := rfl
theorem ps_0 : ∀ i, i < 30 → ps0 i < 36 ∧ (pcs 36).2 i = nI (ps0 i) := by decide +kernel
theorem rel_0 {R Z : Nat → Nat → Int32} (h : FIx R Z) : Rel 0 R W0 Z T0 none 104 D0 (fun _ _ => 0) (fun _ => 0) := by
  obtain ⟨hR, hZ, z1, z4, r5, z10, r11⟩ := id h
  refine ⟨0, 0, 0, 0, Wi0, 3, fun _ => 0, 0, Wi1, 1, fun _ => 0, 0, ⟨⟨by decide, rfl, rfl, by decide, WB_E0, WB_D0, ?_, fun i hi => absurd hi (Nat.not_lt_zero _)⟩, ⟨by decide, z1, rfl, fun j hj => absurd hj (Nat.not_lt_zero _)⟩, ⟨by decide, hZ 49 1 (by decide) (by decide) (by decide) (by decide) (by decide) (by decide) (by decide), rfl, fun j hj => absurd hj (Nat.not_lt_zero _)⟩, ⟨Wf_0, z4, r5, ⟨rfl, fun k hk => absurd hk (Nat.not_lt_zero _), Or.inl rfl, by decide⟩, fun a b c => ?_⟩, ⟨Wf_1, z10, r11, ⟨rfl, fun k hk => absurd hk (Nat.not_lt_zero _), Or.inl rfl, by decide⟩, fun a b c => ?_⟩⟩, WB_E0, WB_E0, fun b f e => (by cases e), T0_I (by decide), ⟨by decide, hZ 22 1 (by decide) (by decide) (by decide) (by decide) (by decide) (by decide) (by decide), fun i hi => ⟨(ps_0 i hi).1, ?_⟩⟩, ⟨0, by decide, hZ 51 1 (by decide) (by decide) (by decide) (by decide) (by decide) (by decide) (by decide), rfl, fun j hj => absurd hj (Nat.not_lt_zero _)⟩, fun i hi => ⟨h.z _ _ (by omega), ⟨0, by decide, h.z _ _ (by omega), rfl⟩, fun j hj => ?_⟩, fun k hk => ?_, ⟨hZ 0 14 (by decide) (by decide) (by decide) (by decide) (by decide) (by decide) (by decide), fun z => absurd rfl z⟩, 0, rfl, Nat.le_refl _⟩
  · intro j hj
    have h50 : j < 50 := by omega
    exact if_pos h50
  · rw [ev_0]; rfl
  · rw [ev_1]; rfl
  · show R 23 i = _
    rw [hR 23 (by decide) (by decide) (by decide) (by decide) (by decide)]
    exact (ps_0 i hi).2
  · rw [h.r _ (by omega)]
  · rw [hR 54 (by decide) (by decide) (by decide) (by decide) (by decide)]; rfl
theorem nk_Law_7 : nok "FelledByNamesLaw" 7 0 15 [.null, .null, .null, .null, .null, .null, .null, .null, .null, .null, .null, .null, .null, .null, .int 0] := ⟨_, _, t_F, rfl, i_F, t_F_ok, tm 23 (by decide +kernel) rfl, tm 24 (by decide +kernel) rfl, tm 1 (by decide +kernel) rfl, fun _ j hj => by rcases (show j = 0 ∨ j = 1 ∨ j = 2 ∨ j = 3 ∨ j = 4 ∨ j = 5 ∨ j = 6 ∨ j = 7 ∨ j = 8 ∨ j = 9 ∨ j = 10 ∨ j = 11 ∨ j = 12 ∨ j = 13 ∨ j = 14 by omega) with rfl | rfl | rfl | rfl | rfl | rfl | rfl | rfl | rfl | rfl | rfl | rfl | rfl | rfl | rfl <;> rfl⟩
theorem nk_Law_10 : nok "FelledByNamesLaw" 10 5 26 [.null, .null, .null, .int 0, .null, .int 0, .int 0, .int 0, .int 0, .int 0, .int 0, .null, .null, .int 0, .null, .null, .null, .null, .int 0, .null, .int 0, .int 0, .null, .null, .null, .null] := ⟨_, _, t_Mo, rfl, i_Mo, t_Mo_ok, tm 1053 (by decide +kernel) rfl, tm 1054 (by decide +kernel) rfl, tm 15 (by decide +kernel) rfl, fun _ j hj => by rcases (show j = 0 ∨ j = 1 ∨ j = 2 ∨ j = 3 ∨ j = 4 ∨ j = 5 ∨ j = 6 ∨ j = 7 ∨ j = 8 ∨ j = 9 ∨ j = 10 ∨ j = 11 ∨ j = 12 ∨ j = 13 ∨ j = 14 ∨ j = 15 ∨ j = 16 ∨ j = 17 ∨ j = 18 ∨ j = 19 ∨ j = 20 ∨ j = 21 ∨ j = 22 ∨ j = 23 ∨ j = 24 ∨ j = 25 by omega) with rfl | rfl | rfl | rfl | rfl | rfl | rfl | rfl | rfl | rfl | rfl | rfl | rfl | rfl | rfl | rfl | rfl | rfl | rfl | rfl | rfl | rfl | rfl | rfl | rfl | rfl <;> rfl⟩
theorem kB_F_init : kB M_F_init 0 := ⟨tm 1 (by decide +kernel) rfl, tm 27 (by decide +kernel) rfl, ⟨by decide, by decide, by decide +kernel⟩, by decide⟩
theorem k_Law_9_F_initI : kI "FelledByNamesLaw" 9 M_F_init 0 := ⟨kB_F_init, tm 25 (by decide +kernel) rfl, tm 26 (by decide +kernel) rfl, rfl, rfl⟩
theorem kB_Mo_init : kB M_Mo_init 0 := ⟨tm 15 (by decide +kernel) rfl, tm 1057 (by decide +kernel) rfl, ⟨by decide, by decide, by decide +kernel⟩, by decide⟩
theorem k_Law_12_Mo_initI : kI "FelledByNamesLaw" 12 M_Mo_init 0 := ⟨kB_Mo_init, tm 1055 (by decide +kernel) rfl, tm 1056 (by decide +kernel) rfl, rfl, rfl⟩
theorem law_V {l : Launch} {d L : Nat} {xs : Nat → Int32} {Q : QT} (hL : L ≤ 3072) (hQ : ∀ n h, Q (some (.int (nI 1))) n h) : V l (M_Law L xs) (d + 61) 600000 7302250 0 [(0, .float 200)] [] 0 hN 0 0 Q := by
  refine V.new d_Law_0 nk_Law_7 (by omega) (by omega) ?_
  refine V.eqH ov_one ?_
  refine V.dup rfl d_Law_3 ?_
  refine V.callI0 d_Law_4 k_Law_9_F_initI (Nat.le_of_ble_eq_true rfl) (by omega) (by omega) (c_F_init (fun R Z hF => ?_))
  refine V.astore_n d_Law_7 (by show 1 < 4; decide) ?_
  refine V.new d_Law_8 nk_Law_10 (by omega) (by omega) ?_
  refine V.dup rfl d_Law_11 ?_
  refine V.callI0 d_Law_12 k_Law_12_Mo_initI (Nat.le_of_ble_eq_true rfl) (by omega) (by omega) (c_Mo_init (q := 88) ?_)
  refine V.eqH (cmo (T0_I (Nat.le_refl 104))).symm ?_
  refine V.astore_n d_Law_15 (by show 2 < 4; decide) ?_
  refine V.iconst_ (nI 0) d_Law_16 (by decide +kernel) ?_
  refine V.istore_n d_Law_17 (by show 3 < 4; decide) ?_
  refine V.lc (ls' := [(0, .float 200), (1, .ref 0), (2, .ref 88), (3, .int (nI (6 * 0)))]) rfl ?_
  exact lw_loop (c0 := 200) (s0 := 4000) hL (by decide) (by decide) hQ (L / 6) 0 (by omega) (rel_0 hF) (by omega) (by omega)
