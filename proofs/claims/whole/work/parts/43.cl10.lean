theorem zT_b {Z : Nat → Nat → Int32} {u : Nat} : uZ (uZ (uZ (uZ Z (3 + 6 * u) 7 (nI 0)) (3 + 6 * u) 8 (nI 0)) (3 + 6 * u) 9 (-1)) (6 + 6 * u) 1 (nI 0) = zT Z u (0, false, []) 0 0 := by
  funext b j
  unfold uZ zT
  by_cases h1 : b = 3 + 6 * u ∧ j = 7
  · rw [if_neg (by omega), if_neg (by omega), if_neg (by omega), if_pos h1, if_pos h1]
  · by_cases h2 : b = 3 + 6 * u ∧ j = 8
    · rw [if_neg (by omega), if_neg (by omega), if_pos h2, if_neg h1, if_pos h2]
    · by_cases h3 : b = 3 + 6 * u ∧ j = 9
      · rw [if_neg (by omega), if_pos h3, if_neg h1, if_neg h2, if_pos h3]; rfl
      · rw [if_neg h1, if_neg h2, if_neg h3, if_neg h1, if_neg h2, if_neg h3]
theorem te_s {f : Nat → Int32} {sz : Nat} {wd : Bool} (h : ¬ ((eiP f sz (unP f sz wd 5) (0, false, [])).2.1 = false ∧ (eiP f sz (unP f sz wd 5) (0, false, [])).1 < sz)) : teP f sz wd = eiP f sz (unP f sz wd 5) (0, false, []) := if_neg h
theorem te_w {f : Nat → Int32} {sz : Nat} {wd : Bool} (h : (eiP f sz (unP f sz wd 5) (0, false, [])).2.1 = false ∧ (eiP f sz (unP f sz wd 5) (0, false, [])).1 < sz) : teP f sz wd = wg (eiP f sz (unP f sz wd 5) (0, false, [])) := if_pos h
abbrev M_Text_read : MD := (⟨"FelledByNames$Text", "read", "()I"⟩, prog_9_method_5_code, 1, (some .int), fun _ => True)
theorem d_Text_read_0 : decode prog_9_method_5_code 0 = .ok (.aload_n 0, 1) := by decide +kernel
theorem d_Text_read_1 : decode prog_9_method_5_code 1 = .ok (.iconst 0, 1) := by decide +kernel
theorem d_Text_read_2 : decode prog_9_method_5_code 2 = .ok (.putfield 27, 3) := by decide +kernel
theorem d_Text_read_5 : decode prog_9_method_5_code 5 = .ok (.aload_n 0, 1) := by decide +kernel
theorem d_Text_read_6 : decode prog_9_method_5_code 6 = .ok (.iconst 0, 1) := by decide +kernel
theorem d_Text_read_7 : decode prog_9_method_5_code 7 = .ok (.putfield 31, 3) := by decide +kernel
theorem d_Text_read_10 : decode prog_9_method_5_code 10 = .ok (.aload_n 0, 1) := by decide +kernel
theorem d_Text_read_11 : decode prog_9_method_5_code 11 = .ok (.iconst (-1), 1) := by decide +kernel
theorem d_Text_read_12 : decode prog_9_method_5_code 12 = .ok (.putfield 34, 3) := by decide +kernel
theorem d_Text_read_15 : decode prog_9_method_5_code 15 = .ok (.aload_n 0, 1) := by decide +kernel
theorem d_Text_read_16 : decode prog_9_method_5_code 16 = .ok (.getfield 20, 3) := by decide +kernel
theorem d_Text_read_19 : decode prog_9_method_5_code 19 = .ok (.invokevirtual 70, 3) := by decide +kernel
theorem kB_Row_clear : kB M_Row_clear 0 := ⟨tm 2 (by decide +kernel) rfl, tm 294 (by decide +kernel) rfl, ⟨by decide, by decide, by decide +kernel⟩, by decide⟩
theorem k_Text_70_Row_clear_RowV : kV "FelledByNames$Text" 70 1 M_Row_clear 0 := ⟨kB_Row_clear, tm 289 (by decide +kernel) rfl, tm 290 (by decide +kernel) rfl, tm 291 (by decide +kernel) rfl, _, rfl, rfl⟩
theorem d_Text_read_22 : decode prog_9_method_5_code 22 = .ok (.aload_n 0, 1) := by decide +kernel
theorem d_Text_read_23 : decode prog_9_method_5_code 23 = .ok (.iconst 0, 1) := by decide +kernel
theorem d_Text_read_24 : decode prog_9_method_5_code 24 = .ok (.invokevirtual 86, 3) := by decide +kernel
theorem d_Text_read_27 : decode prog_9_method_5_code 27 = .ok (.aload_n 0, 1) := by decide +kernel
theorem d_Text_read_28 : decode prog_9_method_5_code 28 = .ok (.getfield 34, 3) := by decide +kernel
theorem d_Text_read_31 : decode prog_9_method_5_code 31 = .ok (.ifCond .ge 25, 3) := by decide +kernel
theorem d_Text_read_56 : decode prog_9_method_5_code 56 = .ok (.aload_n 0, 1) := by decide +kernel
theorem d_Text_read_57 : decode prog_9_method_5_code 57 = .ok (.getfield 34, 3) := by decide +kernel
theorem d_Text_read_60 : decode prog_9_method_5_code 60 = .ok (.ifCond .ge 11, 3) := by decide +kernel
theorem d_Text_read_71 : decode prog_9_method_5_code 71 = .ok (.aload_n 0, 1) := by decide +kernel
theorem d_Text_read_72 : decode prog_9_method_5_code 72 = .ok (.getfield 34, 3) := by decide +kernel
theorem d_Text_read_75 : decode prog_9_method_5_code 75 = .ok (.ireturn, 1) := by decide +kernel
theorem d_Text_read_34 : decode prog_9_method_5_code 34 = .ok (.aload_n 0, 1) := by decide +kernel
theorem d_Text_read_35 : decode prog_9_method_5_code 35 = .ok (.getfield 27, 3) := by decide +kernel
theorem d_Text_read_38 : decode prog_9_method_5_code 38 = .ok (.aload_n 0, 1) := by decide +kernel
theorem d_Text_read_39 : decode prog_9_method_5_code 39 = .ok (.getfield 41, 3) := by decide +kernel
theorem d_Text_read_42 : decode prog_9_method_5_code 42 = .ok (.getfield 89, 3) := by decide +kernel
theorem d_Text_read_45 : decode prog_9_method_5_code 45 = .ok (.if_icmp .ge 11, 3) := by decide +kernel
theorem d_Text_read_63 : decode prog_9_method_5_code 63 = .ok (.aload_n 0, 1) := by decide +kernel
theorem d_Text_read_64 : decode prog_9_method_5_code 64 = .ok (.aload_n 0, 1) := by decide +kernel
theorem d_Text_read_65 : decode prog_9_method_5_code 65 = .ok (.getfield 20, 3) := by decide +kernel
theorem d_Text_read_68 : decode prog_9_method_5_code 68 = .ok (.invokevirtual 92, 3) := by decide +kernel
theorem kB_Text_takeCode : kB M_Text_takeCode 1 := ⟨tm 4 (by decide +kernel) rfl, tm 393 (by decide +kernel) rfl, ⟨by decide, by decide, by decide +kernel⟩, by decide⟩
theorem k_Text_92_Text_takeCode_TextV : kV "FelledByNames$Text" 92 3 M_Text_takeCode 1 := ⟨kB_Text_takeCode, tm 390 (by decide +kernel) rfl, tm 391 (by decide +kernel) rfl, tm 392 (by decide +kernel) rfl, _, rfl, rfl⟩
theorem d_Text_read_48 : decode prog_9_method_5_code 48 = .ok (.aload_n 0, 1) := by decide +kernel
theorem d_Text_read_49 : decode prog_9_method_5_code 49 = .ok (.aload_n 0, 1) := by decide +kernel
theorem d_Text_read_50 : decode prog_9_method_5_code 50 = .ok (.getfield 27, 3) := by decide +kernel
theorem d_Text_read_53 : decode prog_9_method_5_code 53 = .ok (.putfield 34, 3) := by decide +kernel
set_option maxRecDepth 100000 in
theorem c_Text_read {l : Launch} {R W Z : Nat → Nat → Int32} {T : Nat → Nat → Nat} {kn : Kn} {h0 : HP} {u sz : Nat} {d n : Nat} {Q : QT} (hu : u < 2) (hsz : sz ≤ 50) (hz : Z 1 1 = nI sz) (hB : ∀ j, j < sz → ∃ c, c < 256 ∧ R 2 j = nI c) (hT : TI T kn n) (hF : (teP (R 2) sz (decide (u = 1))).2.1 = true → ∀ R1 Z1 : Nat → Nat → Int32, (∀ a, a ≠ 5 + 6 * u → a ≠ 7 + 6 * u → R1 a = R a) → (∀ b j, b ≠ 3 + 6 * u → b ≠ 4 + 6 * u → b ≠ 6 + 6 * u → Z1 b j = Z b j) → R1 (5 + 6 * u) = R (5 + 6 * u) → Z1 (4 + 6 * u) 1 = Z (4 + 6 * u) 1 → Q (some (.int (nI (teP (R 2) sz (decide (u = 1))).1))) n (co R1 W Z1 T kn h0)) (hOk : (teP (R 2) sz (decide (u = 1))).2.1 = false → ∀ R1 Z1 : Nat → Nat → Int32, (∀ a, a ≠ 5 + 6 * u → a ≠ 7 + 6 * u → R1 a = R a) → (∀ b j, b ≠ 3 + 6 * u → b ≠ 4 + 6 * u → b ≠ 6 + 6 * u → Z1 b j = Z b j) → (∀ k, k < (teP (R 2) sz (decide (u = 1))).2.2.length → R1 (5 + 6 * u) k = nI ((teP (R 2) sz (decide (u = 1))).2.2.getD k 0)) → Z1 (4 + 6 * u) 1 = nI (teP (R 2) sz (decide (u = 1))).2.2.length → Q (some (.int (-1))) n (co R1 W Z1 T (fgK u kn) h0)) : Ct l M_Text_read (d + 52) 0 0 [.ref (3 + 6 * u)] n (co R W Z T kn h0) Q := by
  have hle : (eiP (R 2) sz (unP (R 2) sz (decide (u = 1)) 5) (0, false, [])).1 ≤ sz := (Gp.ei (Gp.un 5) (0, false, []) (Nat.zero_le _)).2.1
  refine Ct.of (fun _ => trivial) (by decide) (Nat.le_of_ble_eq_true rfl) ?_
  refine V.aload_n d_Text_read_0 rfl ?_
  refine V.iconst_ (nI 0) d_Text_read_1 (by decide +kernel) ?_
  refine V.put d_Text_read_2 f_Text_27_Text fp_Text_7 (fun _ => rfl) (fun _ => rfl) (co_s (sc_tx (tx_ds u hu).1)) (Nat.le_of_ble_eq_true rfl) ?_
  refine V.eqH (co_utx (u := u) (k := 7) hu (by decide)) ?_
  refine V.aload_n d_Text_read_5 rfl ?_
  refine V.iconst_ (nI 0) d_Text_read_6 (by decide +kernel) ?_
  refine V.put d_Text_read_7 f_Text_31_Text fp_Text_8 (fun _ => rfl) (fun _ => rfl) (co_s (sc_tx (tx_ds u hu).1)) (Nat.le_of_ble_eq_true rfl) ?_
  refine V.eqH (co_utx (u := u) (k := 8) hu (by decide)) ?_
  refine V.aload_n d_Text_read_10 rfl ?_
  refine V.iconst_ (-1) d_Text_read_11 (by decide +kernel) ?_
  refine V.put d_Text_read_12 f_Text_34_Text fp_Text_9 (fun _ => rfl) (fun _ => rfl) (co_s (sc_tx (tx_ds u hu).1)) (Nat.le_of_ble_eq_true rfl) ?_
  refine V.eqH (co_utx (u := u) (k := 9) hu (by decide)) ?_
  refine V.aload_n d_Text_read_15 rfl ?_
  refine V.get d_Text_read_16 f_Text_20_Text (co_s (sc_tx (tx_ds u hu).1)) rfl ?_
  refine V.callV0 d_Text_read_19 k_Text_70_Row_clear_RowV (co_s (sc_rw (tx_ds u hu).2.2.2.1)) (Nat.le_of_ble_eq_true rfl) (by omega) (by omega) (c_Row_clear (tx_ds u hu).2.2.2.1 ?_)
  refine V.eqH (h' := co (uA R (6 + 6 * u + 1) (wrt (R (6 + 6 * u + 1)) 0 (([] : List Nat)))) W (zT Z u ((0, false, [])) (([] : List Nat)).length 0) T kn h0) (by rw [zT_b, show wrt (R (6 + 6 * u + 1)) 0 [] = R (6 + 6 * u + 1) from rfl, uA_id]; rfl) ?_
  refine V.aload_n d_Text_read_22 rfl ?_
  refine V.iconst_ (nI 0) d_Text_read_23 (by decide +kernel) ?_
  refine V.callV1 d_Text_read_24 k_Text_86_Text_readLevel_TextV (co_s (sc_tx (tx_ds u hu).1)) (Nat.le_of_ble_eq_true rfl) (by omega) (by omega) (level_top hu hsz hz hB (d + 51) (by omega) n _ (0, false, []) [] (Nat.zero_le _) (Nat.le_refl _) ⟨fun _ => rfl, Nat.zero_le _⟩ (fun L hR => ?_))
  refine V.aload_n d_Text_read_27 rfl ?_
  refine V.get d_Text_read_28 f_Text_34_Text (co_s (sc_tx (tx_ds u hu).1)) rfl ?_
  refine V.if_ge (tgt := 56) d_Text_read_31 (by decide) (fun c_31 => ?_) (fun c_31 => ?_)
  · skip
    have hf : (eiP (R 2) sz (unP (R 2) sz (decide (u = 1)) 5) (0, false, [])).2.1 = true := (zT_9i (by omega)).mp c_31
    refine V.aload_n d_Text_read_56 rfl ?_
    refine V.get d_Text_read_57 f_Text_34_Text (co_s (sc_tx (tx_ds u hu).1)) rfl ?_
    refine V.if_ge (tgt := 71) d_Text_read_60 (by decide) (fun c_60 => ?_) (fun c_60 => ?_)
    · skip
      refine V.aload_n d_Text_read_71 rfl ?_
      refine V.get d_Text_read_72 f_Text_34_Text (co_s (sc_tx (tx_ds u hu).1)) rfl ?_
      refine V.top (y := nI (eiP (R 2) sz (unP (R 2) sz (decide (u = 1)) 5) (0, false, [])).1) (zT_9t hf) ?_
      refine V.iret d_Text_read_75 rfl (Nat.le_of_ble_eq_true rfl) (Nat.le_of_ble_eq_true rfl) ?_
      rw [te_s (fun z => absurd z.1 (by rw [hf]; decide))] at hF
      exact hF hf _ _ (fun a h5 h7 => by rw [uA_n (by omega)]) (fun b j h3 h4 h6 => zT_n (Or.inl h3) (Or.inl h6)) (uA_n (by omega)) (zT_n (Or.inl (by omega)) (Or.inl (by omega)))
    · skip
      exact absurd ((zT_9i (by omega)).mpr hf) c_60
  · skip
    have hf : (eiP (R 2) sz (unP (R 2) sz (decide (u = 1)) 5) (0, false, [])).2.1 = false := Bool.eq_false_iff.mpr (fun z => c_31 ((zT_9i (by omega)).mpr z))
    refine V.aload_n d_Text_read_34 rfl ?_
    refine V.get d_Text_read_35 f_Text_27_Text (co_s (sc_tx (tx_ds u hu).1)) rfl ?_
    refine V.top (y := nI (eiP (R 2) sz (unP (R 2) sz (decide (u = 1)) 5) (0, false, [])).1) zT_7 ?_
    refine V.aload_n d_Text_read_38 rfl ?_
    refine V.get d_Text_read_39 f_Text_41_Text (co_s (sc_tx (tx_ds u hu).1)) rfl ?_
    refine V.get d_Text_read_42 f_Text_89_Row (co_s (sc_rw rfl)) rfl ?_
    refine V.top (y := nI sz) (zT_1.trans hz) ?_
    refine V.geN (tgt := 56) d_Text_read_45 (by decide) (by omega) (by omega) (fun c_45 => ?_) (fun c_45 => ?_)
    · skip
      refine V.aload_n d_Text_read_56 rfl ?_
      refine V.get d_Text_read_57 f_Text_34_Text (co_s (sc_tx (tx_ds u hu).1)) rfl ?_
      refine V.if_ge (tgt := 71) d_Text_read_60 (by decide) (fun c_60 => ?_) (fun c_60 => ?_)
      · skip
        exact absurd c_60 (by rw [zT_9f hf]; decide)
      · skip
        refine V.aload_n d_Text_read_63 rfl ?_
        refine V.aload_n d_Text_read_64 rfl ?_
        refine V.get d_Text_read_65 f_Text_20_Text (co_s (sc_tx (tx_ds u hu).1)) rfl ?_
        refine V.callV1 d_Text_read_68 k_Text_92_Text_takeCode_TextV (co_s (sc_tx (tx_ds u hu).1)) (Nat.le_of_ble_eq_true rfl) (by omega) (by omega) (c_Text_takeCode (u := u) (b := 6 + 6 * u) (N2 := 50) (sz := L.length) hu hT (tx_ds u hu).2.2.2.1 (txa_ds u hu).2 (by omega) zT_r hR.2 hR.2 (by decide) ?_)
        refine V.aload_n d_Text_read_71 rfl ?_
        refine V.get d_Text_read_72 f_Text_34_Text (co_s (sc_tx (tx_ds u hu).1)) rfl ?_
        refine V.top (y := -1) (by rw [uZ_n (by omega)]; exact zT_9f hf) ?_
        refine V.iret d_Text_read_75 rfl (Nat.le_of_ble_eq_true rfl) (Nat.le_of_ble_eq_true rfl) ?_
        rw [te_s (fun z => absurd z.2 (by omega))] at hOk
        have eL := hR.1 hf
        subst eL
        exact hOk hf _ _ (fun a h5 h7 => by rw [uA_n (by omega), uA_n (by omega)]) (fun b j h3 h4 h6 => by rw [uZ_n (by omega)]; exact zT_n (Or.inl h3) (Or.inl h6)) (fun k hk => by
          rw [show 5 + 6 * u = 4 + 6 * u + 1 by omega, uA_s, uA_s]
          unfold cpN
          rw [if_pos hk]
          have := wrt_at (R (6 + 6 * u + 1)) (eiP (R 2) sz (unP (R 2) sz (decide (u = 1)) 5) (0, false, [])).2.2 0 k hk
          rwa [Nat.zero_add] at this) uZ_s
    · skip
      refine V.aload_n d_Text_read_48 rfl ?_
      refine V.aload_n d_Text_read_49 rfl ?_
      refine V.get d_Text_read_50 f_Text_27_Text (co_s (sc_tx (tx_ds u hu).1)) rfl ?_
      refine V.top (y := nI (eiP (R 2) sz (unP (R 2) sz (decide (u = 1)) 5) (0, false, [])).1) zT_7 ?_
      refine V.put d_Text_read_53 f_Text_34_Text fp_Text_9 (fun _ => rfl) (fun _ => rfl) (co_s (sc_tx (tx_ds u hu).1)) (Nat.le_of_ble_eq_true rfl) ?_
      refine V.eqH (co_utx (u := u) (k := 9) hu (by decide)) ?_
      rw [zT_wg hf]
      refine V.aload_n d_Text_read_56 rfl ?_
      refine V.get d_Text_read_57 f_Text_34_Text (co_s (sc_tx (tx_ds u hu).1)) rfl ?_
      refine V.if_ge (tgt := 71) d_Text_read_60 (by decide) (fun c_60 => ?_) (fun c_60 => ?_)
      · skip
        refine V.aload_n d_Text_read_71 rfl ?_
        refine V.get d_Text_read_72 f_Text_34_Text (co_s (sc_tx (tx_ds u hu).1)) rfl ?_
        refine V.top (y := nI (wg (eiP (R 2) sz (unP (R 2) sz (decide (u = 1)) 5) (0, false, []))).1) (zT_9t rfl) ?_
        refine V.iret d_Text_read_75 rfl (Nat.le_of_ble_eq_true rfl) (Nat.le_of_ble_eq_true rfl) ?_
        rw [te_w ⟨hf, c_45⟩] at hF
        exact hF rfl _ _ (fun a h5 h7 => by rw [uA_n (by omega)]) (fun b j h3 h4 h6 => zT_n (Or.inl h3) (Or.inl h6)) (uA_n (by omega)) (zT_n (Or.inl (by omega)) (Or.inl (by omega)))
      · skip
        exact absurd (by rw [zT_9t rfl]; exact (nI_leI (a := 0) (by decide) (by show (eiP (R 2) sz (unP (R 2) sz (decide (u = 1)) 5) (0, false, [])).1 < 2 ^ 31; omega)).mpr (Nat.zero_le _)) c_60
