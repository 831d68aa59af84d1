theorem V.absW {l : Launch} {M : MD} {d mc ms pc : Nat} {ls : List (Nat × Value)} {st : List Value} {n : Nat} {R W Z : Nat → Nat → Int32} {T : Nat → Nat → Nat} {kn : Kn} {h0 : HP} {c s : Nat} {Q : QT} (k : ∀ W1, W1 = W → V l M d mc ms pc ls st n (co R W1 Z T kn h0) c s Q) : V l M d mc ms pc ls st n (co R W Z T kn h0) c s Q := k W rfl
theorem V.absR {l : Launch} {M : MD} {d mc ms pc : Nat} {ls : List (Nat × Value)} {st : List Value} {n : Nat} {R W Z : Nat → Nat → Int32} {T : Nat → Nat → Nat} {kn : Kn} {h0 : HP} {c s : Nat} {Q : QT} (k : ∀ R1, R1 = R → V l M d mc ms pc ls st n (co R1 W Z T kn h0) c s Q) : V l M d mc ms pc ls st n (co R W Z T kn h0) c s Q := k R rfl
theorem V.absZ {l : Launch} {M : MD} {d mc ms pc : Nat} {ls : List (Nat × Value)} {st : List Value} {n : Nat} {R W Z : Nat → Nat → Int32} {T : Nat → Nat → Nat} {kn : Kn} {h0 : HP} {c s : Nat} {Q : QT} (k : ∀ Z1, Z1 = Z → V l M d mc ms pc ls st n (co R W Z1 T kn h0) c s Q) : V l M d mc ms pc ls st n (co R W Z T kn h0) c s Q := k Z rfl
theorem wb_big (w : Nat) : 15 ≤ wb w := by unfold wb; split <;> (try split) <;> omega
abbrev M_World_cool : MD := (⟨"FelledByNames$World", "cool", "()V"⟩, prog_12_method_11_code, 5, none, fun _ => True)
theorem d_World_cool_0 : decode prog_12_method_11_code 0 = .ok (.aload_n 0, 1) := by decide +kernel
theorem d_World_cool_1 : decode prog_12_method_11_code 1 = .ok (.getfield 28, 3) := by decide +kernel
theorem f_World_28_World : fok "FelledByNames$World" 28 4 6 := ⟨R_World, F_World, 14, "FelledByNames$World", rfl, i_World, by decide, tm 185 (by decide +kernel) rfl, Or.inl rfl, t_World, t_World_ok, n_World⟩
theorem d_World_cool_4 : decode prog_12_method_11_code 4 = .ok (.bipush 7, 2) := by decide +kernel
theorem d_World_cool_6 : decode prog_12_method_11_code 6 = .ok (.irem, 1) := by decide +kernel
theorem d_World_cool_7 : decode prog_12_method_11_code 7 = .ok (.istore_n 1, 1) := by decide +kernel
theorem d_World_cool_8 : decode prog_12_method_11_code 8 = .ok (.iconst 0, 1) := by decide +kernel
theorem d_World_cool_9 : decode prog_12_method_11_code 9 = .ok (.istore_n 2, 1) := by decide +kernel
theorem d_World_cool_10 : decode prog_12_method_11_code 10 = .ok (.iload_n 2, 1) := by decide +kernel
theorem d_World_cool_11 : decode prog_12_method_11_code 11 = .ok (.aload_n 0, 1) := by decide +kernel
theorem d_World_cool_12 : decode prog_12_method_11_code 12 = .ok (.getfield 55, 3) := by decide +kernel
theorem f_World_55_World : fok "FelledByNames$World" 55 4 13 := ⟨R_World, F_World, 14, "FelledByNames$World", rfl, i_World, by decide, tm 199 (by decide +kernel) rfl, Or.inl rfl, t_World, t_World_ok, n_World⟩
theorem d_World_cool_15 : decode prog_12_method_11_code 15 = .ok (.getfield 149, 3) := by decide +kernel
theorem f_World_149_Row : fok "FelledByNames$World" 149 1 1 := ⟨R_Row, F_Row, 2, "FelledByNames$Row", rfl, i_Row, by decide, tm 50 (by decide +kernel) rfl, Or.inl rfl, t_Row, t_Row_ok, n_Row⟩
theorem d_World_cool_18 : decode prog_12_method_11_code 18 = .ok (.if_icmp .ge 75, 3) := by decide +kernel
theorem d_World_cool_93 : decode prog_12_method_11_code 93 = .ok (.return_, 1) := by decide +kernel
theorem d_World_cool_21 : decode prog_12_method_11_code 21 = .ok (.aload_n 0, 1) := by decide +kernel
theorem d_World_cool_22 : decode prog_12_method_11_code 22 = .ok (.getfield 55, 3) := by decide +kernel
theorem d_World_cool_25 : decode prog_12_method_11_code 25 = .ok (.getfield 152, 3) := by decide +kernel
theorem f_World_152_Row : fok "FelledByNames$World" 152 1 0 := ⟨R_Row, F_Row, 2, "FelledByNames$Row", rfl, i_Row, by decide, tm 43 (by decide +kernel) rfl, Or.inl rfl, t_Row, t_Row_ok, n_Row⟩
theorem d_World_cool_28 : decode prog_12_method_11_code 28 = .ok (.iload_n 2, 1) := by decide +kernel
theorem d_World_cool_29 : decode prog_12_method_11_code 29 = .ok (.iaload, 1) := by decide +kernel
theorem d_World_cool_30 : decode prog_12_method_11_code 30 = .ok (.istore_n 3, 1) := by decide +kernel
theorem d_World_cool_31 : decode prog_12_method_11_code 31 = .ok (.aload_n 0, 1) := by decide +kernel
theorem d_World_cool_32 : decode prog_12_method_11_code 32 = .ok (.getfield 15, 3) := by decide +kernel
theorem f_World_15_World : fok "FelledByNames$World" 15 4 3 := ⟨R_World, F_World, 14, "FelledByNames$World", rfl, i_World, by decide, tm 179 (by decide +kernel) rfl, Or.inl rfl, t_World, t_World_ok, n_World⟩
theorem d_World_cool_35 : decode prog_12_method_11_code 35 = .ok (.iload_n 3, 1) := by decide +kernel
theorem d_World_cool_36 : decode prog_12_method_11_code 36 = .ok (.bipush 6, 2) := by decide +kernel
theorem d_World_cool_38 : decode prog_12_method_11_code 38 = .ok (.idiv, 1) := by decide +kernel
theorem d_World_cool_39 : decode prog_12_method_11_code 39 = .ok (.iaload, 1) := by decide +kernel
theorem d_World_cool_40 : decode prog_12_method_11_code 40 = .ok (.aload_n 0, 1) := by decide +kernel
theorem d_World_cool_41 : decode prog_12_method_11_code 41 = .ok (.getfield 15, 3) := by decide +kernel
theorem d_World_cool_44 : decode prog_12_method_11_code 44 = .ok (.iload_n 3, 1) := by decide +kernel
theorem d_World_cool_45 : decode prog_12_method_11_code 45 = .ok (.bipush 6, 2) := by decide +kernel
theorem d_World_cool_47 : decode prog_12_method_11_code 47 = .ok (.irem, 1) := by decide +kernel
theorem d_World_cool_48 : decode prog_12_method_11_code 48 = .ok (.iaload, 1) := by decide +kernel
theorem d_World_cool_49 : decode prog_12_method_11_code 49 = .ok (.iadd, 1) := by decide +kernel
theorem d_World_cool_50 : decode prog_12_method_11_code 50 = .ok (.istore 4, 2) := by decide +kernel
theorem d_World_cool_52 : decode prog_12_method_11_code 52 = .ok (.aload_n 0, 1) := by decide +kernel
theorem d_World_cool_53 : decode prog_12_method_11_code 53 = .ok (.getfield 9, 3) := by decide +kernel
theorem f_World_9_World : fok "FelledByNames$World" 9 4 2 := ⟨R_World, F_World, 14, "FelledByNames$World", rfl, i_World, by decide, tm 177 (by decide +kernel) rfl, Or.inl rfl, t_World, t_World_ok, n_World⟩
theorem d_World_cool_56 : decode prog_12_method_11_code 56 = .ok (.iload_n 3, 1) := by decide +kernel
theorem d_World_cool_57 : decode prog_12_method_11_code 57 = .ok (.aload_n 0, 1) := by decide +kernel
theorem d_World_cool_58 : decode prog_12_method_11_code 58 = .ok (.getfield 9, 3) := by decide +kernel
theorem d_World_cool_61 : decode prog_12_method_11_code 61 = .ok (.iload_n 3, 1) := by decide +kernel
theorem d_World_cool_62 : decode prog_12_method_11_code 62 = .ok (.iaload, 1) := by decide +kernel
theorem d_World_cool_63 : decode prog_12_method_11_code 63 = .ok (.aload_n 0, 1) := by decide +kernel
theorem d_World_cool_64 : decode prog_12_method_11_code 64 = .ok (.getfield 58, 3) := by decide +kernel
theorem f_World_58_World : fok "FelledByNames$World" 58 4 0 := ⟨R_World, F_World, 14, "FelledByNames$World", rfl, i_World, by decide, tm 175 (by decide +kernel) rfl, Or.inl rfl, t_World, t_World_ok, n_World⟩
theorem d_World_cool_67 : decode prog_12_method_11_code 67 = .ok (.aload_n 0, 1) := by decide +kernel
theorem d_World_cool_68 : decode prog_12_method_11_code 68 = .ok (.getfield 9, 3) := by decide +kernel
theorem d_World_cool_71 : decode prog_12_method_11_code 71 = .ok (.iload_n 3, 1) := by decide +kernel
theorem d_World_cool_72 : decode prog_12_method_11_code 72 = .ok (.iaload, 1) := by decide +kernel
theorem d_World_cool_73 : decode prog_12_method_11_code 73 = .ok (.iload 4, 2) := by decide +kernel
theorem d_World_cool_75 : decode prog_12_method_11_code 75 = .ok (.iload_n 1, 1) := by decide +kernel
theorem d_World_cool_76 : decode prog_12_method_11_code 76 = .ok (.invokevirtual 155, 3) := by decide +kernel
theorem kB_Text_cooling : kB M_Text_cooling 3 := ⟨tm 4 (by decide +kernel) rfl, tm 729 (by decide +kernel) rfl, ⟨by decide, by decide, by decide +kernel⟩, by decide⟩
theorem k_World_155_Text_cooling_TextV : kV "FelledByNames$World" 155 3 M_Text_cooling 3 := ⟨kB_Text_cooling, tm 726 (by decide +kernel) rfl, tm 727 (by decide +kernel) rfl, tm 728 (by decide +kernel) rfl, _, rfl, rfl⟩
theorem d_World_cool_79 : decode prog_12_method_11_code 79 = .ok (.iadd, 1) := by decide +kernel
theorem d_World_cool_80 : decode prog_12_method_11_code 80 = .ok (.iconst 0, 1) := by decide +kernel
theorem d_World_cool_81 : decode prog_12_method_11_code 81 = .ok (.bipush 99, 2) := by decide +kernel
theorem d_World_cool_83 : decode prog_12_method_11_code 83 = .ok (.invokestatic 161, 3) := by decide +kernel
theorem k_World_161_F_clampSN : kSN "FelledByNames$World" 161 M_F_clamp 3 := ⟨kB_F_clamp, ⟨"FelledByNames", List.mem_of_getElem? (i := 1) rfl⟩, tm 710 (by decide +kernel) rfl⟩
theorem d_World_cool_86 : decode prog_12_method_11_code 86 = .ok (.iastore, 1) := by decide +kernel
theorem d_World_cool_87 : decode prog_12_method_11_code 87 = .ok (.iinc 2 1, 3) := by decide +kernel
theorem d_World_cool_90 : decode prog_12_method_11_code 90 = .ok (.goto (-80), 3) := by decide +kernel
set_option maxRecDepth 100000 in
theorem c_World_cool {w np dy len B : Nat} {ps Wc : Nat → Nat} {l : Launch} {d n : Nat} {R W Z : Nat → Nat → Int32} {T : Nat → Nat → Nat} {kn : Kn} {h0 : HP} {Q : QT} (hw : w < 3) (hX : Wf Wc len) (hz : Z (4 + 6 * 0) 1 = nI len) (hC : ∀ k, k < len → R (4 + 6 * 0 + 1) k = nI (Wc k)) (hT : TI T kn n) (hK : KO (cvc Wc len) kn) (hBu : bud len kn ≤ B) (hB : WB (W w)) (hdy : W w 1 = nI dy) (hd9 : dy < 2 ^ 30) (hnp : np ≤ 36) (hzp : Z (wb w + 7) 1 = nI np) (hps : ∀ i, i < np → ps i < 36 ∧ R (wb w + 7 + 1) i = nI (ps i)) (hQ : ∀ (R1 W1 : Nat → Nat → Int32) (kn1 : Kn) (n1 : Nat), (∀ a, a ≠ 8 → R1 a = R a) → W1 w = clI (cvc Wc len) ps (W w) np → (∀ v, v ≠ w → W1 v = W v) → TI T kn1 n1 → KO (cvc Wc len) kn1 → bud len kn1 ≤ bud len kn → n ≤ n1 → Q none n1 (co R1 W1 Z T kn1 h0)) : Ct l M_World_cool (d + 4) B (13300 * B) [.ref (wb w)] n (co R W Z T kn h0) Q := by
  refine Ct.of (fun _ => trivial) (by decide) (Nat.le_of_ble_eq_true rfl) ?_
  refine V.aload_n d_World_cool_0 rfl ?_
  refine V.get d_World_cool_1 f_World_28_World (co_s (sc_wd (wb_ds w hw).1)) rfl ?_
  refine V.top (y := nI dy) (hdy) ?_
  refine V.bipush_ (nI 7) d_World_cool_4 (by decide +kernel) ?_
  refine V.remN d_World_cool_6 (by omega) (by omega) (by omega) ?_
  refine V.istore_n d_World_cool_7 (by decide) ?_
  refine V.iconst_ (nI 0) d_World_cool_8 (by decide +kernel) ?_
  refine V.istore_n d_World_cool_9 (by decide) ?_
  refine V.wd (c' := B - bud len kn) (s' := 13300 * (B - bud len kn)) (Nat.zero_le _) (Nat.zero_le _) ?_
  refine V.lc (ls' := [(0, .ref (wb w)), (1, .int (nI (dy % 7))), (2, .int (nI 0))]) rfl ?_
  refine up_to (G := fun k => ∀ (R1 W1 : Nat → Nat → Int32) (kn1 : Kn) (n1 : Nat), (∀ a, a ≠ 8 → R1 a = R a) → W1 w = clI (cvc Wc len) ps (W w) k → (∀ v, v ≠ w → W1 v = W v) → TI T kn1 n1 → KO (cvc Wc len) kn1 → bud len kn1 ≤ bud len kn → n ≤ n1 → V l M_World_cool (d + 4) B (13300 * B) 10 [(0, .ref (wb w)), (1, .int (nI (dy % 7))), (2, .int (nI k))] [] n1 (co R1 W1 Z T kn1 h0) (B - bud len kn1) (13300 * (B - bud len kn1)) Q) (np) ?_ (fun k hk hn => ?_) 0 (by omega) R W kn n (fun _ _ => rfl) rfl (fun _ _ => rfl) hT hK (Nat.le_refl _) (Nat.le_refl _)
  · skip
    intro R1 W1 kn1 n1 hR1 hW1 hV1 hT1 hK1 hb1 hn1
    refine V.iload_n d_World_cool_10 rfl ?_
    refine V.aload_n d_World_cool_11 rfl ?_
    refine V.get d_World_cool_12 f_World_55_World (co_s (sc_wd (wb_ds w hw).1)) rfl ?_
    refine V.get d_World_cool_15 f_World_149_Row (co_s (sc_rw (wb_ds w hw).2.2.2.2.2.2.2.1)) rfl ?_
    refine V.top (y := nI np) (hzp) ?_
    refine V.geN (tgt := 93) d_World_cool_18 (by decide) (by omega) (by omega) (fun c_18 => ?_) (fun c_18 => ?_)
    · skip
      refine V.vret d_World_cool_93 rfl (by omega) (by omega) ?_
      exact hQ R1 W1 kn1 n1 hR1 hW1 hV1 hT1 hK1 hb1 hn1
    · skip
      exact absurd c_18 (by omega)
  · skip
    intro R1 W1 kn1 n1 hR1 hW1 hV1 hT1 hK1 hb1 hn1
    have hp := (hps k hk).1
    have hp0 : ∀ i, i < k → ps i < 36 := fun i hi => (hps i (by omega)).1
    have hB1 : WB (W1 w) := by rw [hW1]; exact hB.cl k hp0
    have hwb := wb_big w
    obtain ⟨ex, bx⟩ := (hB1.h hp).t (by decide)
    obtain ⟨e1, b1⟩ := (hB1.t (show ps k / 6 < 6 by omega)).t (by decide)
    obtain ⟨e2, b2⟩ := (hB1.t (show ps k % 6 < 6 by omega)).t (by decide)
    have ed : W1 w 1 = nI dy := by rw [hW1, clI_x (by omega) k hp0]; exact hdy
    have ey : W1 w (44 + ps k / 6) + W1 w (44 + ps k % 6) = nI (tN (W1 w) (44 + ps k / 6) + tN (W1 w) (44 + ps k % 6)) := by rw [e1, e2, nI_add, tN_of e1 (by omega), tN_of e2 (by omega)]
    have ez : irm (W1 w 1) (nI 7) = nI (dy % 7) := by rw [ed]; exact pk_rem (by omega) (by decide) (by decide)
    have hC1 : ∀ k, k < len → R1 (4 + 6 * 0 + 1) k = nI (Wc k) := fun k hk => by rw [hR1 _ (by decide)]; exact hC k hk
    refine V.iload_n d_World_cool_10 rfl ?_
    refine V.aload_n d_World_cool_11 rfl ?_
    refine V.get d_World_cool_12 f_World_55_World (co_s (sc_wd (wb_ds w hw).1)) rfl ?_
    refine V.get d_World_cool_15 f_World_149_Row (co_s (sc_rw (wb_ds w hw).2.2.2.2.2.2.2.1)) rfl ?_
    refine V.top (y := nI np) (hzp) ?_
    refine V.geN (tgt := 93) d_World_cool_18 (by decide) (by omega) (by omega) (fun c_18 => ?_) (fun c_18 => ?_)
    · skip
      exact absurd c_18 (by omega)
    · skip
      refine V.aload_n d_World_cool_21 rfl ?_
      refine V.get d_World_cool_22 f_World_55_World (co_s (sc_wd (wb_ds w hw).1)) rfl ?_
      refine V.get d_World_cool_25 f_World_152_Row (co_s (sc_rw (wb_ds w hw).2.2.2.2.2.2.2.1)) rfl ?_
      refine V.iload_n d_World_cool_28 rfl ?_
      refine V.ialdN d_World_cool_29 (co_s (sc_ar (wb_ds w hw).2.2.2.2.2.2.2.2)) (by omega) (by omega) ?_
      refine V.top (y := nI (ps k)) (by rw [hR1 _ (by omega)]; exact (hps k hk).2) ?_
      refine V.istore_n d_World_cool_30 (by decide) ?_
      refine V.aload_n d_World_cool_31 rfl ?_
      refine V.get d_World_cool_32 f_World_15_World (co_s (sc_wd (wb_ds w hw).1)) rfl ?_
      refine V.iload_n d_World_cool_35 rfl ?_
      refine V.bipush_ (nI 6) d_World_cool_36 (by decide +kernel) ?_
      refine V.divN d_World_cool_38 (by omega) (by omega) (by omega) ?_
      refine V.ialdN d_World_cool_39 (co_s (sc_ta (wb_ds w hw).2.2.1)) (by omega) (by omega) ?_
      rw [gd_at (by omega)]
      refine V.aload_n d_World_cool_40 rfl ?_
      refine V.get d_World_cool_41 f_World_15_World (co_s (sc_wd (wb_ds w hw).1)) rfl ?_
      refine V.iload_n d_World_cool_44 rfl ?_
      refine V.bipush_ (nI 6) d_World_cool_45 (by decide +kernel) ?_
      refine V.remN d_World_cool_47 (by omega) (by omega) (by omega) ?_
      refine V.ialdN d_World_cool_48 (co_s (sc_ta (wb_ds w hw).2.2.1)) (by omega) (by omega) ?_
      rw [gd_at (by omega)]
      refine V.iadd d_World_cool_49 ?_
      refine V.top (y := nI (tN (W1 w) (44 + ps k / 6) + tN (W1 w) (44 + ps k % 6))) (ey) ?_
      refine V.istore d_World_cool_50 (by decide) ?_
      refine V.aload_n d_World_cool_52 rfl ?_
      refine V.get d_World_cool_53 f_World_9_World (co_s (sc_wd (wb_ds w hw).1)) rfl ?_
      refine V.iload_n d_World_cool_56 rfl ?_
      refine V.aload_n d_World_cool_57 rfl ?_
      refine V.get d_World_cool_58 f_World_9_World (co_s (sc_wd (wb_ds w hw).1)) rfl ?_
      refine V.iload_n d_World_cool_61 rfl ?_
      refine V.ialdN d_World_cool_62 (co_s (sc_ho (wb_ds w hw).2.1)) (by omega) (by omega) ?_
      rw [gd_at (by omega)]
      refine V.top (y := nI (tN (W1 w) (8 + ps k))) (ex) ?_
      refine V.aload_n d_World_cool_63 rfl ?_
      refine V.get d_World_cool_64 f_World_58_World (co_s (sc_wd (wb_ds w hw).1)) rfl ?_
      refine V.aload_n d_World_cool_67 rfl ?_
      refine V.get d_World_cool_68 f_World_9_World (co_s (sc_wd (wb_ds w hw).1)) rfl ?_
      refine V.iload_n d_World_cool_71 rfl ?_
      refine V.ialdN d_World_cool_72 (co_s (sc_ho (wb_ds w hw).2.1)) (by omega) (by omega) ?_
      rw [gd_at (by omega)]
      refine V.top (y := nI (tN (W1 w) (8 + ps k))) (ex) ?_
      refine V.iload d_World_cool_73 rfl ?_
      refine V.iload_n d_World_cool_75 rfl ?_
      refine V.callV3 d_World_cool_76 k_World_155_Text_cooling_TextV (co_s (sc_tx (tx_ds 0 (by decide)).1)) (Nat.le_of_ble_eq_true rfl) (by omega) (by omega) (c_Text_cooling (x := tN (W1 w) (8 + ps k)) (y := tN (W1 w) (44 + ps k / 6) + tN (W1 w) (44 + ps k % 6)) (z := dy % 7) hX hz hC1 (by omega) (by omega) (by omega) hT1 hK1 (fun P kn2 n2 hT hK2 hb2 hn2 => ?_))
      refine V.iadd d_World_cool_79 ?_
      refine V.iconst_ (nI 0) d_World_cool_80 (by decide +kernel) ?_
      refine V.bipush_ (nI 99) d_World_cool_81 (by decide +kernel) ?_
      refine V.callSN3 d_World_cool_83 k_World_161_F_clampSN (Nat.le_of_ble_eq_true rfl) (by omega) (by omega) (c_F_clamp (by decide +kernel) ?_)
      refine V.iastN d_World_cool_86 (co_s (sc_ho (wb_ds w hw).2.1)) (by omega) (by omega) ?_
      refine V.eqH (co_uho (w := w) hT hw (by omega)) ?_
      refine V.incN d_World_cool_87 rfl (by decide) ?_
      refine V.goto (tgt := 10) d_World_cool_90 (by decide) ?_
      refine V.wd (c' := B - bud len kn2) (s' := 13300 * (B - bud len kn2)) (by omega) (by omega) ?_
      refine V.lc rfl (hn _ _ kn2 n2 (fun a ha => by rw [uA_n ha]; exact hR1 a ha) ?_ (fun v hv => by rw [uW_n hv]; exact hV1 v hv) hT hK2 (by omega) (by omega))
      rw [uW_s]
      exact clI_s hW1 ex ey ez
