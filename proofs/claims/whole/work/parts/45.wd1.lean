theorem V.absW {l : Launch} {M : MD} {d mc ms pc : Nat} {ls : List (Nat × Value)} {st : List Value} {n : Nat} {R W Z : Nat → Nat → Int32} {T : Nat → Nat → Nat} {kn : Kn} {h0 : HP} {c s : Nat} {Q : QT} (k : ∀ W1, W1 = W → V l M d mc ms pc ls st n (co R W1 Z T kn h0) c s Q) : V l M d mc ms pc ls st n (co R W Z T kn h0) c s Q := k W rfl
theorem V.absR {l : Launch} {M : MD} {d mc ms pc : Nat} {ls : List (Nat × Value)} {st : List Value} {n : Nat} {R W Z : Nat → Nat → Int32} {T : Nat → Nat → Nat} {kn : Kn} {h0 : HP} {c s : Nat} {Q : QT} (k : ∀ R1, R1 = R → V l M d mc ms pc ls st n (co R1 W Z T kn h0) c s Q) : V l M d mc ms pc ls st n (co R W Z T kn h0) c s Q := k R rfl
theorem V.absZ {l : Launch} {M : MD} {d mc ms pc : Nat} {ls : List (Nat × Value)} {st : List Value} {n : Nat} {R W Z : Nat → Nat → Int32} {T : Nat → Nat → Nat} {kn : Kn} {h0 : HP} {c s : Nat} {Q : QT} (k : ∀ Z1, Z1 = Z → V l M d mc ms pc ls st n (co R W Z1 T kn h0) c s Q) : V l M d mc ms pc ls st n (co R W Z T kn h0) c s Q := k Z rfl
/-- what the cold of np pairs may still make -/
def bue (len np : Nat) (kn : Kn) : Nat := if np = 0 then 0 else bud len kn
theorem bue_p {len np : Nat} {kn : Kn} (h : np ≠ 0) : bue len np kn = bud len kn := if_neg h
theorem bue_z {len : Nat} {kn : Kn} : bue len 0 kn = 0 := rfl
theorem bue_le {len np : Nat} {kn : Kn} : bue len np kn ≤ 1 := by
  unfold bue
  split
  · omega
  · exact bud_le
theorem wb_big (w : Nat) : 15 ≤ wb w := by unfold wb; split <;> (try split) <;> omega
abbrev M_World_cool : MD := (⟨"FelledByNames$World", "cool", "()V"⟩, prog_12_method_11_code, 5, none, fun _ => True)
theorem d_World_cool_0 : decode prog_12_method_11_code 0 = .ok (.aload_n 0, 1) := by decide +kernel
theorem d_World_cool_1 : decode prog_12_method_11_code 1 = .ok (.getfield 28, 3) := by decide +kernel
theorem f_World_28_World : fok "FelledByNames$World" 28 4 6 := ⟨R_World, F_World, 14, "FelledByNames$World", rfl, i_World, by decide, tm 185 (by decide +kernel) rfl, Or.inl rfl, t_World, t_World_ok, n_World⟩
theorem d_World_cool_4 : decode prog_12_method_11_code 4 = .ok (.bipush 7, 2) := by decide +kernel
theorem d_World_cool_6 : decode prog_12_method_11_code 6 = .ok (.irem, 1) := by decide +kernel
theorem d_World_cool_7 : decode prog_12_method_11_code 7 = .ok (.istore_n 1, 1) := by decide +kernel
theorem d_World_cool_8 : decode prog_12_method_11_code 8 = .ok (.iconst 0, 1) := by decide +kernel
theorem d_World_cool_9 : decode prog_12_method_11_code 9 = .ok (.istore_n 2, 1) := by decide +kernel
theorem d_World_cool_10 : decode prog_12_method_11_code 10 = .ok (.iload_n 2, 1) := by decide +kernel
theorem d_World_cool_11 : decode prog_12_method_11_code 11 = .ok (.aload_n 0, 1) := by decide +kernel
theorem d_World_cool_12 : decode prog_12_method_11_code 12 = .ok (.getfield 55, 3) := by decide +kernel
theorem f_World_55_World : fok "FelledByNames$World" 55 4 13 := ⟨R_World, F_World, 14, "FelledByNames$World", rfl, i_World, by decide, tm 199 (by decide +kernel) rfl, Or.inl rfl, t_World, t_World_ok, n_World⟩
theorem d_World_cool_15 : decode prog_12_method_11_code 15 = .ok (.getfield 149, 3) := by decide +kernel
theorem f_World_149_Row : fok "FelledByNames$World" 149 1 1 := ⟨R_Row, F_Row, 2, "FelledByNames$Row", rfl, i_Row, by decide, tm 50 (by decide +kernel) rfl, Or.inl rfl, t_Row, t_Row_ok, n_Row⟩
theorem d_World_cool_18 : decode prog_12_method_11_code 18 = .ok (.if_icmp .ge 75, 3) := by decide +kernel
theorem d_World_cool_93 : decode prog_12_method_11_code 93 = .ok (.return_, 1) := by decide +kernel
theorem d_World_cool_21 : decode prog_12_method_11_code 21 = .ok (.aload_n 0, 1) := by decide +kernel
theorem d_World_cool_22 : decode prog_12_method_11_code 22 = .ok (.getfield 55, 3) := by decide +kernel
theorem d_World_cool_25 : decode prog_12_method_11_code 25 = .ok (.getfield 152, 3) := by decide +kernel
theorem f_World_152_Row : fok "FelledByNames$World" 152 1 0 := ⟨R_Row, F_Row, 2, "FelledByNames$Row", rfl, i_Row, by decide, tm 43 (by decide +kernel) rfl, Or.inl rfl, t_Row, t_Row_ok, n_Row⟩
theorem d_World_cool_28 : decode prog_12_method_11_code 28 = .ok (.iload_n 2, 1) := by decide +kernel
theorem d_World_cool_29 : decode prog_12_method_11_code 29 = .ok (.iaload, 1) := by decide +kernel
theorem d_World_cool_30 : decode prog_12_method_11_code 30 = .ok (.istore_n 3, 1) := by decide +kernel
theorem d_World_cool_31 : decode prog_12_method_11_code 31 = .ok (.aload_n 0, 1) := by decide +kernel
theorem d_World_cool_32 : decode prog_12_method_11_code 32 = .ok (.getfield 15, 3) := by decide +kernel
theorem f_World_15_World : fok "FelledByNames$World" 15 4 3 := ⟨R_World, F_World, 14, "FelledByNames$World", rfl, i_World, by decide, tm 179 (by decide +kernel) rfl, Or.inl rfl, t_World, t_World_ok, n_World⟩
theorem d_World_cool_35 : decode prog_12_method_11_code 35 = .ok (.iload_n 3, 1) := by decide +kernel
theorem d_World_cool_36 : decode prog_12_method_11_code 36 = .ok (.bipush 6, 2) := by decide +kernel
theorem d_World_cool_38 : decode prog_12_method_11_code 38 = .ok (.idiv, 1) := by decide +kernel
theorem d_World_cool_39 : decode prog_12_method_11_code 39 = .ok (.iaload, 1) := by decide +kernel
theorem d_World_cool_40 : decode prog_12_method_11_code 40 = .ok (.aload_n 0, 1) := by decide +kernel
theorem d_World_cool_41 : decode prog_12_method_11_code 41 = .ok (.getfield 15, 3) := by decide +kernel
theorem d_World_cool_44 : decode prog_12_method_11_code 44 = .ok (.iload_n 3, 1) := by decide +kernel
theorem d_World_cool_45 : decode prog_12_method_11_code 45 = .ok (.bipush 6, 2) := by decide +kernel
theorem d_World_cool_47 : decode prog_12_method_11_code 47 = .ok (.irem, 1) := by decide +kernel
theorem d_World_cool_48 : decode prog_12_method_11_code 48 = .ok (.iaload, 1) := by decide +kernel
theorem d_World_cool_49 : decode prog_12_method_11_code 49 = .ok (.iadd, 1) := by decide +kernel
theorem d_World_cool_50 : decode prog_12_method_11_code 50 = .ok (.istore 4, 2) := by decide +kernel
theorem d_World_cool_52 : decode prog_12_method_11_code 52 = .ok (.aload_n 0, 1) := by decide +kernel
theorem d_World_cool_53 : decode prog_12_method_11_code 53 = .ok (.getfield 9, 3) := by decide +kernel
theorem f_World_9_World : fok "FelledByNames$World" 9 4 2 := ⟨R_World, F_World, 14, "FelledByNames$World", rfl, i_World, by decide, tm 177 (by decide +kernel) rfl, Or.inl rfl, t_World, t_World_ok, n_World⟩
theorem d_World_cool_56 : decode prog_12_method_11_code 56 = .ok (.iload_n 3, 1) := by decide +kernel
theorem d_World_cool_57 : decode prog_12_method_11_code 57 = .ok (.aload_n 0, 1) := by decide +kernel
theorem d_World_cool_58 : decode prog_12_method_11_code 58 = .ok (.getfield 9, 3) := by decide +kernel
theorem d_World_cool_61 : decode prog_12_method_11_code 61 = .ok (.iload_n 3, 1) := by decide +kernel
theorem d_World_cool_62 : decode prog_12_method_11_code 62 = .ok (.iaload, 1) := by decide +kernel
theorem d_World_cool_63 : decode prog_12_method_11_code 63 = .ok (.aload_n 0, 1) := by decide +kernel
theorem d_World_cool_64 : decode prog_12_method_11_code 64 = .ok (.getfield 58, 3) := by decide +kernel
theorem f_World_58_World : fok "FelledByNames$World" 58 4 0 := ⟨R_World, F_World, 14, "FelledByNames$World", rfl, i_World, by decide, tm 175 (by decide +kernel) rfl, Or.inl rfl, t_World, t_World_ok, n_World⟩
theorem d_World_cool_67 : decode prog_12_method_11_code 67 = .ok (.aload_n 0, 1) := by decide +kernel
theorem d_World_cool_68 : decode prog_12_method_11_code 68 = .ok (.getfield 9, 3) := by decide +kernel
theorem d_World_cool_71 : decode prog_12_method_11_code 71 = .ok (.iload_n 3, 1) := by decide +kernel
theorem d_World_cool_72 : decode prog_12_method_11_code 72 = .ok (.iaload, 1) := by decide +kernel
theorem d_World_cool_73 : decode prog_12_method_11_code 73 = .ok (.iload 4, 2) := by decide +kernel
theorem d_World_cool_75 : decode prog_12_method_11_code 75 = .ok (.iload_n 1, 1) := by decide +kernel
theorem d_World_cool_76 : decode prog_12_method_11_code 76 = .ok (.invokevirtual 155, 3) := by decide +kernel
theorem kB_Text_cooling : kB M_Text_cooling 3 := ⟨tm 4 (by decide +kernel) rfl, tm 720 (by decide +kernel) rfl, ⟨by decide, by decide, by decide +kernel⟩, by decide⟩
theorem k_World_155_Text_cooling_TextV : kV "FelledByNames$World" 155 3 M_Text_cooling 3 := ⟨kB_Text_cooling, tm 717 (by decide +kernel) rfl, tm 718 (by decide +kernel) rfl, tm 719 (by decide +kernel) rfl, _, rfl, rfl⟩
theorem d_World_cool_79 : decode prog_12_method_11_code 79 = .ok (.iadd, 1) := by decide +kernel
theorem d_World_cool_80 : decode prog_12_method_11_code 80 = .ok (.iconst 0, 1) := by decide +kernel
theorem d_World_cool_81 : decode prog_12_method_11_code 81 = .ok (.bipush 99, 2) := by decide +kernel
theorem d_World_cool_83 : decode prog_12_method_11_code 83 = .ok (.invokestatic 161, 3) := by decide +kernel
theorem k_World_161_F_clampSN : kSN "FelledByNames$World" 161 M_F_clamp 3 := ⟨kB_F_clamp, ⟨"FelledByNames", List.mem_of_getElem? (i := 0) rfl⟩, tm 723 (by decide +kernel) rfl⟩
theorem d_World_cool_86 : decode prog_12_method_11_code 86 = .ok (.iastore, 1) := by decide +kernel
theorem d_World_cool_87 : decode prog_12_method_11_code 87 = .ok (.iinc 2 1, 3) := by decide +kernel
theorem d_World_cool_90 : decode prog_12_method_11_code 90 = .ok (.goto (-80), 3) := by decide +kernel
set_option maxRecDepth 100000 in
theorem c_World_cool {w np dy len B : Nat} {ps Wc : Nat → Nat} {l : Launch} {d n : Nat} {R W Z : Nat → Nat → Int32} {T : Nat → Nat → Nat} {kn : Kn} {h0 : HP} {Q : QT} (hw : w < 3) (hX : Wf Wc len) (hz : Z (4 + 6 * 0) 1 = nI len) (hC : ∀ k, k < len → R (4 + 6 * 0 + 1) k = nI (Wc k)) (hT : TI T kn n) (hK : KO (cvc Wc len) kn) (hBu : bue len np kn ≤ B) (hB : WB (W w)) (hdy : W w 1 = nI dy) (hd9 : dy < 2 ^ 30) (hnp : np ≤ 36) (hzp : Z (wb w + 7) 1 = nI np) (hps : ∀ i, i < np → ps i < 36 ∧ R (wb w + 7 + 1) i = nI (ps i)) (hQ : ∀ (R1 W1 : Nat → Nat → Int32) (kn1 : Kn) (n1 : Nat), (∀ a, a ≠ 8 → R1 a = R a) → W1 w = clI (cvc Wc len) ps (W w) np → (∀ v, v ≠ w → W1 v = W v) → TI T kn1 n1 → KO (cvc Wc len) kn1 → bue len np kn1 = 0 → n ≤ n1 → Q none n1 (co R1 W1 Z T kn1 h0)) : Ct l M_World_cool (d + 4) B (13300 * B) [.ref (wb w)] n (co R W Z T kn h0) Q := by
  refine Ct.of (fun _ => trivial) (by decide) (Nat.le_of_ble_eq_true rfl) ?_
  refine V.aload_n d_World_cool_0 rfl ?_
  refine V.get d_World_cool_1 f_World_28_World (co_s (sc_wd (wb_ds w hw).1)) rfl ?_
  refine V.top (y := nI dy) (hdy) ?_
  refine V.bipush_ (nI 7) d_World_cool_4 (by decide +kernel) ?_
  refine V.remN d_World_cool_6 (by omega) (by omega) (by omega) ?_
  refine V.istore_n d_World_cool_7 (by decide) ?_
  refine V.iconst_ (nI 0) d_World_cool_8 (by decide +kernel) ?_
  refine V.istore_n d_World_cool_9 (by decide) ?_
  refine V.wd (c' := B - bud len kn) (s' := 13300 * (B - bud len kn)) (Nat.zero_le _) (Nat.zero_le _) ?_
  refine V.lc (ls' := [(0, .ref (wb w)), (1, .int (nI (dy % 7))), (2, .int (nI 0))]) rfl ?_
  refine up_to (G := fun k => ∀ (R1 W1 : Nat → Nat → Int32) (kn1 : Kn) (n1 : Nat), (∀ a, a ≠ 8 → R1 a = R a) → W1 w = clI (cvc Wc len) ps (W w) k → (∀ v, v ≠ w → W1 v = W v) → TI T kn1 n1 → KO (cvc Wc len) kn1 → (bud len kn1 ≤ bud len kn ∧ (0 < k → bud len kn1 = 0)) → n ≤ n1 → V l M_World_cool (d + 4) B (13300 * B) 10 [(0, .ref (wb w)), (1, .int (nI (dy % 7))), (2, .int (nI k))] [] n1 (co R1 W1 Z T kn1 h0) (B - bud len kn1) (13300 * (B - bud len kn1)) Q) (np) ?_ (fun k hk hn => ?_) 0 (by omega) R W kn n (fun _ _ => rfl) rfl (fun _ _ => rfl) hT hK ⟨Nat.le_refl _, fun z => absurd z (by omega)⟩ (Nat.le_refl _)
  · skip
    intro R1 W1 kn1 n1 hR1 hW1 hV1 hT1 hK1 hb1 hn1
    refine V.iload_n d_World_cool_10 rfl ?_
    refine V.aload_n d_World_cool_11 rfl ?_
    refine V.get d_World_cool_12 f_World_55_World (co_s (sc_wd (wb_ds w hw).1)) rfl ?_
    refine V.get d_World_cool_15 f_World_149_Row (co_s (sc_rw (wb_ds w hw).2.2.2.2.2.2.2.1)) rfl ?_
    refine V.top (y := nI np) (hzp) ?_
    refine V.geN (tgt := 93) d_World_cool_18 (by decide) (by omega) (by omega) (fun c_18 => ?_) (fun c_18 => ?_)
    · skip
      refine V.vret d_World_cool_93 rfl (by omega) (by omega) ?_
      refine hQ R1 W1 kn1 n1 hR1 hW1 hV1 hT1 hK1 ?_ hn1
      unfold bue
      split
      · rfl
      · exact hb1.2 (by omega)
    · skip
      exact absurd c_18 (by omega)
  · skip
    intro R1 W1 kn1 n1 hR1 hW1 hV1 hT1 hK1 hb1 hn1
    have hp := (hps k hk).1
    obtain ⟨hb1, -⟩ := hb1
    have hBv := bue_p (len := len) (kn := kn) (show np ≠ 0 by omega)
    have hp0 : ∀ i, i < k → ps i < 36 := fun i hi => (hps i (by omega)).1
    have hB1 : WB (W1 w) := by rw [hW1]; exact hB.cl k hp0
    have hwb := wb_big w
    obtain ⟨ex, bx⟩ := (hB1.h hp).t (by decide)
    obtain ⟨e1, b1⟩ := (hB1.t (show ps k / 6 < 6 by omega)).t (by decide)
    obtain ⟨e2, b2⟩ := (hB1.t (show ps k % 6 < 6 by omega)).t (by decide)
    have ed : W1 w 1 = nI dy := by rw [hW1, clI_x (by omega) k hp0]; exact hdy
    have ey : W1 w (44 + ps k / 6) + W1 w (44 + ps k % 6) = nI (tN (W1 w) (44 + ps k / 6) + tN (W1 w) (44 + ps k % 6)) := by rw [e1, e2, nI_add, tN_of e1 (by omega), tN_of e2 (by omega)]
    have ez : irm (W1 w 1) (nI 7) = nI (dy % 7) := by rw [ed]; exact pk_rem (by omega) (by decide) (by decide)
    have hC1 : ∀ k, k < len → R1 (4 + 6 * 0 + 1) k = nI (Wc k) := fun k hk => by rw [hR1 _ (by decide)]; exact hC k hk
    refine V.iload_n d_World_cool_10 rfl ?_
    refine V.aload_n d_World_cool_11 rfl ?_
    refine V.get d_World_cool_12 f_World_55_World (co_s (sc_wd (wb_ds w hw).1)) rfl ?_
    refine V.get d_World_cool_15 f_World_149_Row (co_s (sc_rw (wb_ds w hw).2.2.2.2.2.2.2.1)) rfl ?_
    refine V.top (y := nI np) (hzp) ?_
    refine V.geN (tgt := 93) d_World_cool_18 (by decide) (by omega) (by omega) (fun c_18 => ?_) (fun c_18 => ?_)
    · skip
      exact absurd c_18 (by omega)
    · skip
      refine V.aload_n d_World_cool_21 rfl ?_
      refine V.get d_World_cool_22 f_World_55_World (co_s (sc_wd (wb_ds w hw).1)) rfl ?_
      refine V.get d_World_cool_25 f_World_152_Row (co_s (sc_rw (wb_ds w hw).2.2.2.2.2.2.2.1)) rfl ?_
      refine V.iload_n d_World_cool_28 rfl ?_
      refine V.ialdN d_World_cool_29 (co_s (sc_ar (wb_ds w hw).2.2.2.2.2.2.2.2)) (by omega) (by omega) ?_
      refine V.top (y := nI (ps k)) (by rw [hR1 _ (by omega)]; exact (hps k hk).2) ?_
      refine V.istore_n d_World_cool_30 (by decide) ?_
      refine V.aload_n d_World_cool_31 rfl ?_
      refine V.get d_World_cool_32 f_World_15_World (co_s (sc_wd (wb_ds w hw).1)) rfl ?_
      refine V.iload_n d_World_cool_35 rfl ?_
      refine V.bipush_ (nI 6) d_World_cool_36 (by decide +kernel) ?_
      refine V.divN d_World_cool_38 (by omega) (by omega) (by omega) ?_
      refine V.ialdN d_World_cool_39 (co_s (sc_ta (wb_ds w hw).2.2.1)) (by omega) (by omega) ?_
      rw [gd_at (by omega)]
      refine V.aload_n d_World_cool_40 rfl ?_
      refine V.get d_World_cool_41 f_World_15_World (co_s (sc_wd (wb_ds w hw).1)) rfl ?_
      refine V.iload_n d_World_cool_44 rfl ?_
      refine V.bipush_ (nI 6) d_World_cool_45 (by decide +kernel) ?_
      refine V.remN d_World_cool_47 (by omega) (by omega) (by omega) ?_
      refine V.ialdN d_World_cool_48 (co_s (sc_ta (wb_ds w hw).2.2.1)) (by omega) (by omega) ?_
      rw [gd_at (by omega)]
      refine V.iadd d_World_cool_49 ?_
      refine V.top (y := nI (tN (W1 w) (44 + ps k / 6) + tN (W1 w) (44 + ps k % 6))) (ey) ?_
      refine V.istore d_World_cool_50 (by decide) ?_
      refine V.aload_n d_World_cool_52 rfl ?_
      refine V.get d_World_cool_53 f_World_9_World (co_s (sc_wd (wb_ds w hw).1)) rfl ?_
      refine V.iload_n d_World_cool_56 rfl ?_
      refine V.aload_n d_World_cool_57 rfl ?_
      refine V.get d_World_cool_58 f_World_9_World (co_s (sc_wd (wb_ds w hw).1)) rfl ?_
      refine V.iload_n d_World_cool_61 rfl ?_
      refine V.ialdN d_World_cool_62 (co_s (sc_ho (wb_ds w hw).2.1)) (by omega) (by omega) ?_
      rw [gd_at (by omega)]
      refine V.top (y := nI (tN (W1 w) (8 + ps k))) (ex) ?_
      refine V.aload_n d_World_cool_63 rfl ?_
      refine V.get d_World_cool_64 f_World_58_World (co_s (sc_wd (wb_ds w hw).1)) rfl ?_
      refine V.aload_n d_World_cool_67 rfl ?_
      refine V.get d_World_cool_68 f_World_9_World (co_s (sc_wd (wb_ds w hw).1)) rfl ?_
      refine V.iload_n d_World_cool_71 rfl ?_
      refine V.ialdN d_World_cool_72 (co_s (sc_ho (wb_ds w hw).2.1)) (by omega) (by omega) ?_
      rw [gd_at (by omega)]
      refine V.top (y := nI (tN (W1 w) (8 + ps k))) (ex) ?_
      refine V.iload d_World_cool_73 rfl ?_
      refine V.iload_n d_World_cool_75 rfl ?_
      refine V.callV3 d_World_cool_76 k_World_155_Text_cooling_TextV (co_s (sc_tx (tx_ds 0 (by decide)).1)) (Nat.le_of_ble_eq_true rfl) (by omega) (by omega) (c_Text_cooling (x := tN (W1 w) (8 + ps k)) (y := tN (W1 w) (44 + ps k / 6) + tN (W1 w) (44 + ps k % 6)) (z := dy % 7) hX hz hC1 (by omega) (by omega) (by omega) hT1 hK1 (fun P kn2 n2 hT hK2 hb2 hn2 => ?_))
      refine V.iadd d_World_cool_79 ?_
      refine V.iconst_ (nI 0) d_World_cool_80 (by decide +kernel) ?_
      refine V.bipush_ (nI 99) d_World_cool_81 (by decide +kernel) ?_
      refine V.callSN3 d_World_cool_83 k_World_161_F_clampSN (Nat.le_of_ble_eq_true rfl) (by omega) (by omega) (c_F_clamp (by decide +kernel) ?_)
      refine V.iastN d_World_cool_86 (co_s (sc_ho (wb_ds w hw).2.1)) (by omega) (by omega) ?_
      refine V.eqH (co_uho (w := w) hT hw (by omega)) ?_
      refine V.incN d_World_cool_87 rfl (by decide) ?_
      refine V.goto (tgt := 10) d_World_cool_90 (by decide) ?_
      refine V.wd (c' := B - bud len kn2) (s' := 13300 * (B - bud len kn2)) (by omega) (by omega) ?_
      refine V.lc rfl (hn _ _ kn2 n2 (fun a ha => by rw [uA_n ha]; exact hR1 a ha) ?_ (fun v hv => by rw [uW_n hv]; exact hV1 v hv) hT hK2 ⟨by omega, fun _ => hb2⟩ (by omega))
      rw [uW_s]
      exact clI_s hW1 ex ey ez
def stS (D : Nat → Int32) (b : Bool) : Nat → Int32 := fun N => itr (fun t acc => if D (50 + 7 * t + 6) = bi b then acc ||| (nI 1 <<< (nI t &&& 31)) else acc) N (nI 0)
theorem stS_t {D : Nat → Int32} {b : Bool} {k : Nat} (h : D (50 + 7 * k + 6) = bi b) : stS D b k ||| (nI 1 <<< (nI k &&& 31)) = stS D b (k + 1) := (if_pos h).symm
theorem stS_f {D : Nat → Int32} {b : Bool} {k : Nat} (h : ¬ D (50 + 7 * k + 6) = bi b) : stS D b k = stS D b (k + 1) := (if_neg h).symm
abbrev M_World_setOfTrees : MD := (⟨"FelledByNames$World", "setOfTrees", "(Z)I"⟩, prog_12_method_6_code, 4, (some .int), fun _ => True)
theorem d_World_setOfTrees_0 : decode prog_12_method_6_code 0 = .ok (.iconst 0, 1) := by decide +kernel
theorem d_World_setOfTrees_1 : decode prog_12_method_6_code 1 = .ok (.istore_n 2, 1) := by decide +kernel
theorem d_World_setOfTrees_2 : decode prog_12_method_6_code 2 = .ok (.iconst 0, 1) := by decide +kernel
theorem d_World_setOfTrees_3 : decode prog_12_method_6_code 3 = .ok (.istore_n 3, 1) := by decide +kernel
theorem d_World_setOfTrees_4 : decode prog_12_method_6_code 4 = .ok (.iload_n 3, 1) := by decide +kernel
theorem d_World_setOfTrees_5 : decode prog_12_method_6_code 5 = .ok (.aload_n 0, 1) := by decide +kernel
theorem d_World_setOfTrees_6 : decode prog_12_method_6_code 6 = .ok (.getfield 24, 3) := by decide +kernel
theorem f_World_24_World : fok "FelledByNames$World" 24 4 5 := ⟨R_World, F_World, 14, "FelledByNames$World", rfl, i_World, by decide, tm 183 (by decide +kernel) rfl, Or.inl rfl, t_World, t_World_ok, n_World⟩
theorem d_World_setOfTrees_9 : decode prog_12_method_6_code 9 = .ok (.if_icmp .ge 28, 3) := by decide +kernel
theorem d_World_setOfTrees_37 : decode prog_12_method_6_code 37 = .ok (.iload_n 2, 1) := by decide +kernel
theorem d_World_setOfTrees_38 : decode prog_12_method_6_code 38 = .ok (.ireturn, 1) := by decide +kernel
theorem d_World_setOfTrees_12 : decode prog_12_method_6_code 12 = .ok (.aload_n 0, 1) := by decide +kernel
theorem d_World_setOfTrees_13 : decode prog_12_method_6_code 13 = .ok (.getfield 20, 3) := by decide +kernel
theorem f_World_20_World : fok "FelledByNames$World" 20 4 4 := ⟨R_World, F_World, 14, "FelledByNames$World", rfl, i_World, by decide, tm 181 (by decide +kernel) rfl, Or.inl rfl, t_World, t_World_ok, n_World⟩
theorem d_World_setOfTrees_16 : decode prog_12_method_6_code 16 = .ok (.iload_n 3, 1) := by decide +kernel
theorem d_World_setOfTrees_17 : decode prog_12_method_6_code 17 = .ok (.aaload, 1) := by decide +kernel
theorem d_World_setOfTrees_18 : decode prog_12_method_6_code 18 = .ok (.getfield 110, 3) := by decide +kernel
theorem f_World_110_Tree : fok "FelledByNames$World" 110 6 7 := ⟨R_Tree, F_Tree, 8, "FelledByNames$Tree", rfl, i_Tree, by decide, tm 150 (by decide +kernel) rfl, Or.inl rfl, t_Tree, t_Tree_ok, n_Tree⟩
theorem f_World_110_Beech : fok "FelledByNames$World" 110 7 7 := ⟨R_Beech, F_Beech, 8, "FelledByNames$Tree", rfl, i_Beech, by decide, tm 150 (by decide +kernel) rfl, Or.inl rfl, t_Beech, t_Beech_ok, n_Beech⟩
theorem f_World_110_Oak : fok "FelledByNames$World" 110 8 7 := ⟨R_Oak, F_Oak, 8, "FelledByNames$Tree", rfl, i_Oak, by decide, tm 150 (by decide +kernel) rfl, Or.inl rfl, t_Oak, t_Oak_ok, n_Oak⟩
theorem f_World_110_Sapling : fok "FelledByNames$World" 110 9 7 := ⟨R_Sapling, F_Sapling, 8, "FelledByNames$Tree", rfl, i_Sapling, by decide, tm 150 (by decide +kernel) rfl, Or.inl rfl, t_Sapling, t_Sapling_ok, n_Sapling⟩
theorem f_World_110_Wedged : fok "FelledByNames$World" 110 10 7 := ⟨R_Wedged, F_Wedged, 8, "FelledByNames$Tree", rfl, i_Wedged, by decide, tm 150 (by decide +kernel) rfl, Or.inl rfl, t_Wedged, t_Wedged_ok, n_Wedged⟩
theorem f_World_110_Hollow : fok "FelledByNames$World" 110 11 7 := ⟨R_Hollow, F_Hollow, 8, "FelledByNames$Tree", rfl, i_Hollow, by decide, tm 150 (by decide +kernel) rfl, Or.inl rfl, t_Hollow, t_Hollow_ok, n_Hollow⟩
theorem f_World_110_Hill : fok "FelledByNames$World" 110 12 7 := ⟨R_Hill, F_Hill, 8, "FelledByNames$Tree", rfl, i_Hill, by decide, tm 150 (by decide +kernel) rfl, Or.inl rfl, t_Hill, t_Hill_ok, n_Hill⟩
theorem ft_World_110 : ∀ c, c ≤ 6 → fok "FelledByNames$World" 110 (6 + c) 7 := fun c hc => by
  rcases (show c = 0 ∨ c = 1 ∨ c = 2 ∨ c = 3 ∨ c = 4 ∨ c = 5 ∨ c = 6 by omega) with rfl | rfl | rfl | rfl | rfl | rfl | rfl
  · exact f_World_110_Tree
  · exact f_World_110_Beech
  · exact f_World_110_Oak
  · exact f_World_110_Sapling
  · exact f_World_110_Wedged
  · exact f_World_110_Hollow
  · exact f_World_110_Hill
theorem d_World_setOfTrees_21 : decode prog_12_method_6_code 21 = .ok (.iload_n 1, 1) := by decide +kernel
theorem d_World_setOfTrees_22 : decode prog_12_method_6_code 22 = .ok (.if_icmp .ne 9, 3) := by decide +kernel
theorem d_World_setOfTrees_31 : decode prog_12_method_6_code 31 = .ok (.iinc 3 1, 3) := by decide +kernel
theorem d_World_setOfTrees_34 : decode prog_12_method_6_code 34 = .ok (.goto (-30), 3) := by decide +kernel
theorem d_World_setOfTrees_25 : decode prog_12_method_6_code 25 = .ok (.iload_n 2, 1) := by decide +kernel
theorem d_World_setOfTrees_26 : decode prog_12_method_6_code 26 = .ok (.iconst 1, 1) := by decide +kernel
theorem d_World_setOfTrees_27 : decode prog_12_method_6_code 27 = .ok (.iload_n 3, 1) := by decide +kernel
theorem d_World_setOfTrees_28 : decode prog_12_method_6_code 28 = .ok (.ishl, 1) := by decide +kernel
theorem d_World_setOfTrees_29 : decode prog_12_method_6_code 29 = .ok (.ior, 1) := by decide +kernel
theorem d_World_setOfTrees_30 : decode prog_12_method_6_code 30 = .ok (.istore_n 2, 1) := by decide +kernel
set_option maxRecDepth 100000 in
theorem c_World_setOfTrees {w N : Nat} {b : Bool} {l : Launch} {d n : Nat} {R W Z : Nat → Nat → Int32} {T : Nat → Nat → Nat} {kn : Kn} {h0 : HP} {Q : QT} (hw : w < 3) (hT : TI T kn n) (hB : WB (W w)) (hN : N ≤ 8) (e0 : W w 0 = nI N) (hQ : Q (some (.int (stS (W w) b N))) n (co R W Z T kn h0)) : Ct l M_World_setOfTrees d 0 0 [.ref (wb w), .int (bi b)] n (co R W Z T kn h0) Q := by
  refine Ct.of (fun _ => trivial) (by decide) (Nat.le_of_ble_eq_true rfl) ?_
  refine V.iconst_ (nI 0) d_World_setOfTrees_0 (by decide +kernel) ?_
  refine V.istore_n d_World_setOfTrees_1 (by decide) ?_
  refine V.iconst_ (nI 0) d_World_setOfTrees_2 (by decide +kernel) ?_
  refine V.istore_n d_World_setOfTrees_3 (by decide) ?_
  refine V.lc (ls' := [(0, .ref (wb w)), (1, .int (bi b)), (2, .int (stS (W w) b 0)), (3, .int (nI 0))]) rfl ?_
  refine up_to (G := fun k => V l M_World_setOfTrees d 0 0 4 [(0, .ref (wb w)), (1, .int (bi b)), (2, .int (stS (W w) b k)), (3, .int (nI k))] [] n (co R W Z T kn h0) 0 0 Q) (N) ?_ (fun k hk hn => ?_) 0 (by omega)
  · skip
    refine V.iload_n d_World_setOfTrees_4 rfl ?_
    refine V.aload_n d_World_setOfTrees_5 rfl ?_
    refine V.get d_World_setOfTrees_6 f_World_24_World (co_s (sc_wd (wb_ds w hw).1)) rfl ?_
    refine V.top (y := nI N) (e0) ?_
    refine V.geN (tgt := 37) d_World_setOfTrees_9 (by decide) (by omega) (by omega) (fun c_9 => ?_) (fun c_9 => ?_)
    · skip
      refine V.iload_n d_World_setOfTrees_37 rfl ?_
      refine V.iret d_World_setOfTrees_38 rfl (Nat.le_of_ble_eq_true rfl) (Nat.le_of_ble_eq_true rfl) ?_
      exact hQ
    · skip
      exact absurd c_9 (by omega)
  · skip
    have hi : k < 8 := by omega
    refine V.iload_n d_World_setOfTrees_4 rfl ?_
    refine V.aload_n d_World_setOfTrees_5 rfl ?_
    refine V.get d_World_setOfTrees_6 f_World_24_World (co_s (sc_wd (wb_ds w hw).1)) rfl ?_
    refine V.top (y := nI N) (e0) ?_
    refine V.geN (tgt := 37) d_World_setOfTrees_9 (by decide) (by omega) (by omega) (fun c_9 => ?_) (fun c_9 => ?_)
    · skip
      exact absurd c_9 (by omega)
    · skip
      refine V.aload_n d_World_setOfTrees_12 rfl ?_
      refine V.get d_World_setOfTrees_13 f_World_20_World (co_s (sc_wd (wb_ds w hw).1)) rfl ?_
      refine V.iload_n d_World_setOfTrees_16 rfl ?_
      refine V.aald (b := T w k) d_World_setOfTrees_17 (Or.inl rfl) (co_s (sc_tr (wb_ds w hw).2.2.2.1)) (vp_in_nI (by omega) (by omega)) (by rw [icl (by omega)]; exact if_pos (by omega)) ?_
      refine V.get d_World_setOfTrees_18 (ft_World_110 _ ((hB).kd hi)) (co_t hT hw hi) rfl ?_
      refine V.iload_n d_World_setOfTrees_21 rfl ?_
      refine V.icmp_ne (tgt := 31) d_World_setOfTrees_22 (by decide) (fun c_22 => ?_) (fun c_22 => ?_)
      · skip
        refine V.incN d_World_setOfTrees_31 rfl (by decide) ?_
        refine V.goto (tgt := 4) d_World_setOfTrees_34 (by decide) ?_
        rw [← stS_f c_22] at hn
        exact V.lc rfl hn
      · skip
        refine V.iload_n d_World_setOfTrees_25 rfl ?_
        refine V.iconst_ (nI 1) d_World_setOfTrees_26 (by decide +kernel) ?_
        refine V.iload_n d_World_setOfTrees_27 rfl ?_
        refine V.ishl d_World_setOfTrees_28 ?_
        refine V.ior d_World_setOfTrees_29 ?_
        refine V.istore_n d_World_setOfTrees_30 (by decide) ?_
        refine V.incN d_World_setOfTrees_31 rfl (by decide) ?_
        refine V.goto (tgt := 4) d_World_setOfTrees_34 (by decide) ?_
        rw [← stS_t c_22] at hn
        exact V.lc rfl hn
def tbI (D : Nat → Int32) (x v : Int32) : Nat → Nat → Int32 := fun k => itr (fun p E => if ((x >>> (nI p &&& 31)) &&& nI 1) = nI 1 then upd E (44 + p) v else E) k D
theorem tbI_t {D : Nat → Int32} {x v : Int32} {k : Nat} (h : ((x >>> (nI k &&& 31)) &&& nI 1) = nI 1) : tbI D x v (k + 1) = upd (tbI D x v k) (44 + k) v := if_pos h
theorem tbI_f {D : Nat → Int32} {x v : Int32} {k : Nat} (h : ¬ ((x >>> (nI k &&& 31)) &&& nI 1) = nI 1) : tbI D x v (k + 1) = tbI D x v k := if_neg h
abbrev M_World_talkAbout : MD := (⟨"FelledByNames$World", "talkAbout", "(II)V"⟩, prog_12_method_4_code, 4, none, fun _ => True)
theorem d_World_talkAbout_0 : decode prog_12_method_4_code 0 = .ok (.iconst 0, 1) := by decide +kernel
theorem d_World_talkAbout_1 : decode prog_12_method_4_code 1 = .ok (.istore_n 3, 1) := by decide +kernel
theorem d_World_talkAbout_2 : decode prog_12_method_4_code 2 = .ok (.iload_n 3, 1) := by decide +kernel
theorem d_World_talkAbout_3 : decode prog_12_method_4_code 3 = .ok (.bipush 6, 2) := by decide +kernel
theorem d_World_talkAbout_5 : decode prog_12_method_4_code 5 = .ok (.if_icmp .ge 25, 3) := by decide +kernel
theorem d_World_talkAbout_30 : decode prog_12_method_4_code 30 = .ok (.return_, 1) := by decide +kernel
theorem d_World_talkAbout_8 : decode prog_12_method_4_code 8 = .ok (.iload_n 1, 1) := by decide +kernel
theorem d_World_talkAbout_9 : decode prog_12_method_4_code 9 = .ok (.iload_n 3, 1) := by decide +kernel
theorem d_World_talkAbout_10 : decode prog_12_method_4_code 10 = .ok (.ishr, 1) := by decide +kernel
theorem d_World_talkAbout_11 : decode prog_12_method_4_code 11 = .ok (.iconst 1, 1) := by decide +kernel
theorem d_World_talkAbout_12 : decode prog_12_method_4_code 12 = .ok (.iand, 1) := by decide +kernel
theorem d_World_talkAbout_13 : decode prog_12_method_4_code 13 = .ok (.iconst 1, 1) := by decide +kernel
theorem d_World_talkAbout_14 : decode prog_12_method_4_code 14 = .ok (.if_icmp .ne 10, 3) := by decide +kernel
theorem d_World_talkAbout_24 : decode prog_12_method_4_code 24 = .ok (.iinc 3 1, 3) := by decide +kernel
theorem d_World_talkAbout_27 : decode prog_12_method_4_code 27 = .ok (.goto (-25), 3) := by decide +kernel
theorem d_World_talkAbout_17 : decode prog_12_method_4_code 17 = .ok (.aload_n 0, 1) := by decide +kernel
theorem d_World_talkAbout_18 : decode prog_12_method_4_code 18 = .ok (.getfield 15, 3) := by decide +kernel
theorem d_World_talkAbout_21 : decode prog_12_method_4_code 21 = .ok (.iload_n 3, 1) := by decide +kernel
theorem d_World_talkAbout_22 : decode prog_12_method_4_code 22 = .ok (.iload_n 2, 1) := by decide +kernel
theorem d_World_talkAbout_23 : decode prog_12_method_4_code 23 = .ok (.iastore, 1) := by decide +kernel
set_option maxRecDepth 100000 in
theorem c_World_talkAbout {w : Nat} {x v : Int32} {l : Launch} {d n : Nat} {R W Z : Nat → Nat → Int32} {T : Nat → Nat → Nat} {kn : Kn} {h0 : HP} {Q : QT} (hw : w < 3) (hT : TI T kn n) (hQ : Q none n (co R (uW W w (tbI (W w) x v 6)) Z T kn h0)) : Ct l M_World_talkAbout d 0 0 [.ref (wb w), .int x, .int v] n (co R W Z T kn h0) Q := by
  refine Ct.of (fun _ => trivial) (by decide) (Nat.le_of_ble_eq_true rfl) ?_
  refine V.iconst_ (nI 0) d_World_talkAbout_0 (by decide +kernel) ?_
  refine V.istore_n d_World_talkAbout_1 (by decide) ?_
  refine V.eqH (h' := co R (uW W w (tbI (W w) x v 0)) Z T kn h0) (congrArg (fun X => co R X Z T kn h0) uW_id.symm) ?_
  refine V.lc (ls' := [(0, .ref (wb w)), (1, .int x), (2, .int v), (3, .int (nI 0))]) rfl ?_
  refine up_to (G := fun k => V l M_World_talkAbout d 0 0 2 [(0, .ref (wb w)), (1, .int x), (2, .int v), (3, .int (nI k))] [] n (co R (uW W w (tbI (W w) x v k)) Z T kn h0) 0 0 Q) (6) ?_ (fun k hk hn => ?_) 0 (by omega)
  · skip
    refine V.iload_n d_World_talkAbout_2 rfl ?_
    refine V.bipush_ (nI 6) d_World_talkAbout_3 (by decide +kernel) ?_
    refine V.geN (tgt := 30) d_World_talkAbout_5 (by decide) (by omega) (by omega) (fun c_5 => ?_) (fun c_5 => ?_)
    · skip
      refine V.vret d_World_talkAbout_30 rfl (Nat.le_of_ble_eq_true rfl) (Nat.le_of_ble_eq_true rfl) ?_
      exact hQ
    · skip
      exact absurd c_5 (by omega)
  · skip
    refine V.iload_n d_World_talkAbout_2 rfl ?_
    refine V.bipush_ (nI 6) d_World_talkAbout_3 (by decide +kernel) ?_
    refine V.geN (tgt := 30) d_World_talkAbout_5 (by decide) (by omega) (by omega) (fun c_5 => ?_) (fun c_5 => ?_)
    · skip
      exact absurd c_5 (by omega)
    · skip
      refine V.iload_n d_World_talkAbout_8 rfl ?_
      refine V.iload_n d_World_talkAbout_9 rfl ?_
      refine V.ishr d_World_talkAbout_10 ?_
      refine V.iconst_ (nI 1) d_World_talkAbout_11 (by decide +kernel) ?_
      refine V.iand d_World_talkAbout_12 ?_
      refine V.iconst_ (nI 1) d_World_talkAbout_13 (by decide +kernel) ?_
      refine V.icmp_ne (tgt := 24) d_World_talkAbout_14 (by decide) (fun c_14 => ?_) (fun c_14 => ?_)
      · skip
        refine V.incN d_World_talkAbout_24 rfl (by decide) ?_
        refine V.goto (tgt := 2) d_World_talkAbout_27 (by decide) ?_
        rw [tbI_f c_14] at hn
        exact V.lc rfl hn
      · skip
        refine V.aload_n d_World_talkAbout_17 rfl ?_
        refine V.get d_World_talkAbout_18 f_World_15_World (co_s (sc_wd (wb_ds w hw).1)) rfl ?_
        refine V.iload_n d_World_talkAbout_21 rfl ?_
        refine V.iload_n d_World_talkAbout_22 rfl ?_
        refine V.iastN d_World_talkAbout_23 (co_s (sc_ta (wb_ds w hw).2.2.1)) (by omega) (by omega) ?_
        refine V.eqH (co_uta (w := w) hT hw (by omega)) ?_
        refine V.incN d_World_talkAbout_24 rfl (by decide) ?_
        refine V.goto (tgt := 2) d_World_talkAbout_27 (by decide) ?_
        rw [uW_s, uW_uu, ← tbI_t c_14]
        exact V.lc rfl hn
abbrev M_World_holdFast : MD := (⟨"FelledByNames$World", "holdFast", "(I)V"⟩, prog_12_method_5_code, 3, none, fun _ => True)
theorem kpD_t {D : Nat → Int32} {a k : Nat} (h : k ≠ a) : kpD D a (k + 1) = upd (upd (kpD D a k) (8 + (a * 6 + k)) (nI 99)) (8 + (k * 6 + a)) (nI 99) := by
  show (if k = a then kpD D a k else upd (upd (kpD D a k) (8 + 6 * a + k) (nI 99)) (8 + 6 * k + a) (nI 99)) = _
  rw [if_neg h, show 8 + 6 * a + k = 8 + (a * 6 + k) by omega, show 8 + 6 * k + a = 8 + (k * 6 + a) by omega]
theorem kpD_e {D : Nat → Int32} {a : Nat} : kpD D a (a + 1) = kpD D a a := if_pos rfl
theorem two_N {a b : Nat} (ha : a < 6) (hb : b < 6) : two (nI a) (nI b) = decide (a ≠ b) := by
  unfold two
  rw [wi_ofN (by decide) (by omega) (by decide), wi_ofN (by decide) (by omega) (by decide), decide_eq_true (Nat.zero_le _), decide_eq_true (Nat.zero_le _), decide_eq_true (show a ≤ 5 by omega), decide_eq_true (show b ≤ 5 by omega)]
  by_cases h : a = b
  · subst h; rw [decide_eq_true rfl, decide_eq_false (fun z => z rfl)]; rfl
  · rw [decide_eq_false (fun z => h ((nI_eq (by omega) (by omega)).mp z)), decide_eq_true h]; rfl
theorem d_World_holdFast_0 : decode prog_12_method_5_code 0 = .ok (.iconst 0, 1) := by decide +kernel
theorem d_World_holdFast_1 : decode prog_12_method_5_code 1 = .ok (.istore_n 2, 1) := by decide +kernel
theorem d_World_holdFast_2 : decode prog_12_method_5_code 2 = .ok (.iload_n 2, 1) := by decide +kernel
theorem d_World_holdFast_3 : decode prog_12_method_5_code 3 = .ok (.bipush 6, 2) := by decide +kernel
theorem d_World_holdFast_5 : decode prog_12_method_5_code 5 = .ok (.if_icmp .ge 41, 3) := by decide +kernel
theorem d_World_holdFast_46 : decode prog_12_method_5_code 46 = .ok (.return_, 1) := by decide +kernel
theorem d_World_holdFast_8 : decode prog_12_method_5_code 8 = .ok (.iload_n 1, 1) := by decide +kernel
theorem d_World_holdFast_9 : decode prog_12_method_5_code 9 = .ok (.iload_n 2, 1) := by decide +kernel
theorem d_World_holdFast_10 : decode prog_12_method_5_code 10 = .ok (.invokestatic 114, 3) := by decide +kernel
theorem kB_F_areTwo : kB M_F_areTwo 2 := ⟨tm 1 (by decide +kernel) rfl, tm 476 (by decide +kernel) rfl, ⟨by decide, by decide, by decide +kernel⟩, by decide⟩
theorem k_World_114_F_areTwoSN : kSN "FelledByNames$World" 114 M_F_areTwo 2 := ⟨kB_F_areTwo, ⟨"FelledByNames", List.mem_of_getElem? (i := 4) rfl⟩, tm 475 (by decide +kernel) rfl⟩
theorem d_World_holdFast_13 : decode prog_12_method_5_code 13 = .ok (.ifCond .eq 27, 3) := by decide +kernel
theorem d_World_holdFast_40 : decode prog_12_method_5_code 40 = .ok (.iinc 2 1, 3) := by decide +kernel
theorem d_World_holdFast_43 : decode prog_12_method_5_code 43 = .ok (.goto (-41), 3) := by decide +kernel
theorem d_World_holdFast_16 : decode prog_12_method_5_code 16 = .ok (.aload_n 0, 1) := by decide +kernel
theorem d_World_holdFast_17 : decode prog_12_method_5_code 17 = .ok (.getfield 9, 3) := by decide +kernel
theorem d_World_holdFast_20 : decode prog_12_method_5_code 20 = .ok (.iload_n 1, 1) := by decide +kernel
theorem d_World_holdFast_21 : decode prog_12_method_5_code 21 = .ok (.iload_n 2, 1) := by decide +kernel
theorem d_World_holdFast_22 : decode prog_12_method_5_code 22 = .ok (.invokestatic 106, 3) := by decide +kernel
theorem kB_F_cell : kB M_F_cell 2 := ⟨tm 1 (by decide +kernel) rfl, tm 487 (by decide +kernel) rfl, ⟨by decide, by decide, by decide +kernel⟩, by decide⟩
theorem k_World_106_F_cellSN : kSN "FelledByNames$World" 106 M_F_cell 2 := ⟨kB_F_cell, ⟨"FelledByNames", List.mem_of_getElem? (i := 1) rfl⟩, tm 486 (by decide +kernel) rfl⟩
theorem d_World_holdFast_25 : decode prog_12_method_5_code 25 = .ok (.bipush 99, 2) := by decide +kernel
theorem d_World_holdFast_27 : decode prog_12_method_5_code 27 = .ok (.iastore, 1) := by decide +kernel
theorem d_World_holdFast_28 : decode prog_12_method_5_code 28 = .ok (.aload_n 0, 1) := by decide +kernel
theorem d_World_holdFast_29 : decode prog_12_method_5_code 29 = .ok (.getfield 9, 3) := by decide +kernel
theorem d_World_holdFast_32 : decode prog_12_method_5_code 32 = .ok (.iload_n 2, 1) := by decide +kernel
theorem d_World_holdFast_33 : decode prog_12_method_5_code 33 = .ok (.iload_n 1, 1) := by decide +kernel
theorem d_World_holdFast_34 : decode prog_12_method_5_code 34 = .ok (.invokestatic 106, 3) := by decide +kernel
theorem d_World_holdFast_37 : decode prog_12_method_5_code 37 = .ok (.bipush 99, 2) := by decide +kernel
theorem d_World_holdFast_39 : decode prog_12_method_5_code 39 = .ok (.iastore, 1) := by decide +kernel
set_option maxRecDepth 100000 in
theorem c_World_holdFast {w a : Nat} {l : Launch} {d n : Nat} {R W Z : Nat → Nat → Int32} {T : Nat → Nat → Nat} {kn : Kn} {h0 : HP} {Q : QT} (hw : w < 3) (ha : a < 6) (hT : TI T kn n) (hQ : Q none n (co R (uW W w (kpD (W w) a 6)) Z T kn h0)) : Ct l M_World_holdFast (d + 2) 0 0 [.ref (wb w), .int (nI a)] n (co R W Z T kn h0) Q := by
  refine Ct.of (fun _ => trivial) (by decide) (Nat.le_of_ble_eq_true rfl) ?_
  refine V.iconst_ (nI 0) d_World_holdFast_0 (by decide +kernel) ?_
  refine V.istore_n d_World_holdFast_1 (by decide) ?_
  refine V.eqH (h' := co R (uW W w (kpD (W w) a 0)) Z T kn h0) (congrArg (fun X => co R X Z T kn h0) uW_id.symm) ?_
  refine V.lc (ls' := [(0, .ref (wb w)), (1, .int (nI a)), (2, .int (nI 0))]) rfl ?_
  refine up_to (G := fun k => V l M_World_holdFast (d + 2) 0 0 2 [(0, .ref (wb w)), (1, .int (nI a)), (2, .int (nI k))] [] n (co R (uW W w (kpD (W w) a k)) Z T kn h0) 0 0 Q) (6) ?_ (fun k hk hn => ?_) 0 (by omega)
  · skip
    refine V.iload_n d_World_holdFast_2 rfl ?_
    refine V.bipush_ (nI 6) d_World_holdFast_3 (by decide +kernel) ?_
    refine V.geN (tgt := 46) d_World_holdFast_5 (by decide) (by omega) (by omega) (fun c_5 => ?_) (fun c_5 => ?_)
    · skip
      refine V.vret d_World_holdFast_46 rfl (Nat.le_of_ble_eq_true rfl) (Nat.le_of_ble_eq_true rfl) ?_
      exact hQ
    · skip
      exact absurd c_5 (by omega)
  · skip
    refine V.iload_n d_World_holdFast_2 rfl ?_
    refine V.bipush_ (nI 6) d_World_holdFast_3 (by decide +kernel) ?_
    refine V.geN (tgt := 46) d_World_holdFast_5 (by decide) (by omega) (by omega) (fun c_5 => ?_) (fun c_5 => ?_)
    · skip
      exact absurd c_5 (by omega)
    · skip
      refine V.iload_n d_World_holdFast_8 rfl ?_
      refine V.iload_n d_World_holdFast_9 rfl ?_
      refine V.callSN2 d_World_holdFast_10 k_World_114_F_areTwoSN (Nat.le_of_ble_eq_true rfl) (by omega) (by omega) (c_F_areTwo ?_)
      refine V.ifeqB (tgt := 40) d_World_holdFast_13 (by decide) (fun c_13 => ?_) (fun c_13 => ?_)
      · skip
        refine V.incN d_World_holdFast_40 rfl (by decide) ?_
        refine V.goto (tgt := 2) d_World_holdFast_43 (by decide) ?_
        have e : a = k := by
          rw [two_N ha hk] at c_13
          simpa using c_13
        subst e
        rw [kpD_e] at hn
        exact V.lc rfl hn
      · skip
        refine V.aload_n d_World_holdFast_16 rfl ?_
        refine V.get d_World_holdFast_17 f_World_9_World (co_s (sc_wd (wb_ds w hw).1)) rfl ?_
        refine V.iload_n d_World_holdFast_20 rfl ?_
        refine V.iload_n d_World_holdFast_21 rfl ?_
        refine V.callSN2 d_World_holdFast_22 k_World_106_F_cellSN (Nat.le_of_ble_eq_true rfl) (by omega) (by omega) (c_F_cell ?_)
        refine V.bipush_ (nI 99) d_World_holdFast_25 (by decide +kernel) ?_
        refine V.iastN d_World_holdFast_27 (co_s (sc_ho (wb_ds w hw).2.1)) (by omega) (by omega) ?_
        refine V.eqH (co_uho (w := w) hT hw (by omega)) ?_
        refine V.aload_n d_World_holdFast_28 rfl ?_
        refine V.get d_World_holdFast_29 f_World_9_World (co_s (sc_wd (wb_ds w hw).1)) rfl ?_
        refine V.iload_n d_World_holdFast_32 rfl ?_
        refine V.iload_n d_World_holdFast_33 rfl ?_
        refine V.callSN2 d_World_holdFast_34 k_World_106_F_cellSN (Nat.le_of_ble_eq_true rfl) (by omega) (by omega) (c_F_cell ?_)
        refine V.bipush_ (nI 99) d_World_holdFast_37 (by decide +kernel) ?_
        refine V.iastN d_World_holdFast_39 (co_s (sc_ho (wb_ds w hw).2.1)) (by omega) (by omega) ?_
        refine V.eqH (co_uho (w := w) hT hw (by omega)) ?_
        refine V.incN d_World_holdFast_40 rfl (by decide) ?_
        refine V.goto (tgt := 2) d_World_holdFast_43 (by decide) ?_
        rw [uW_s, uW_uu, uW_s, uW_uu, ← kpD_t (fun z => absurd c_13 (by rw [two_N ha hk, z]; simp))]
        exact V.lc rfl hn
abbrev M_World_sumOfHolds : MD := (⟨"FelledByNames$World", "sumOfHolds", "()I"⟩, prog_12_method_7_code, 3, (some .int), fun _ => True)
theorem d_World_sumOfHolds_0 : decode prog_12_method_7_code 0 = .ok (.iconst 0, 1) := by decide +kernel
theorem d_World_sumOfHolds_1 : decode prog_12_method_7_code 1 = .ok (.istore_n 1, 1) := by decide +kernel
theorem d_World_sumOfHolds_2 : decode prog_12_method_7_code 2 = .ok (.iconst 0, 1) := by decide +kernel
theorem d_World_sumOfHolds_3 : decode prog_12_method_7_code 3 = .ok (.istore_n 2, 1) := by decide +kernel
theorem d_World_sumOfHolds_4 : decode prog_12_method_7_code 4 = .ok (.iload_n 2, 1) := by decide +kernel
theorem d_World_sumOfHolds_5 : decode prog_12_method_7_code 5 = .ok (.bipush 36, 2) := by decide +kernel
theorem d_World_sumOfHolds_7 : decode prog_12_method_7_code 7 = .ok (.if_icmp .ge 18, 3) := by decide +kernel
theorem d_World_sumOfHolds_25 : decode prog_12_method_7_code 25 = .ok (.iload_n 1, 1) := by decide +kernel
theorem d_World_sumOfHolds_26 : decode prog_12_method_7_code 26 = .ok (.ireturn, 1) := by decide +kernel
theorem d_World_sumOfHolds_10 : decode prog_12_method_7_code 10 = .ok (.iload_n 1, 1) := by decide +kernel
theorem d_World_sumOfHolds_11 : decode prog_12_method_7_code 11 = .ok (.aload_n 0, 1) := by decide +kernel
theorem d_World_sumOfHolds_12 : decode prog_12_method_7_code 12 = .ok (.getfield 9, 3) := by decide +kernel
theorem d_World_sumOfHolds_15 : decode prog_12_method_7_code 15 = .ok (.iload_n 2, 1) := by decide +kernel
theorem d_World_sumOfHolds_16 : decode prog_12_method_7_code 16 = .ok (.iaload, 1) := by decide +kernel
theorem d_World_sumOfHolds_17 : decode prog_12_method_7_code 17 = .ok (.iadd, 1) := by decide +kernel
theorem d_World_sumOfHolds_18 : decode prog_12_method_7_code 18 = .ok (.istore_n 1, 1) := by decide +kernel
theorem d_World_sumOfHolds_19 : decode prog_12_method_7_code 19 = .ok (.iinc 2 1, 3) := by decide +kernel
theorem d_World_sumOfHolds_22 : decode prog_12_method_7_code 22 = .ok (.goto (-18), 3) := by decide +kernel
set_option maxRecDepth 100000 in
theorem c_World_sumOfHolds {w : Nat} {l : Launch} {d n : Nat} {R W Z : Nat → Nat → Int32} {T : Nat → Nat → Nat} {kn : Kn} {h0 : HP} {Q : QT} (hw : w < 3) (hQ : Q (some (.int (smh (W w) 36))) n (co R W Z T kn h0)) : Ct l M_World_sumOfHolds d 0 0 [.ref (wb w)] n (co R W Z T kn h0) Q := by
  refine Ct.of (fun _ => trivial) (by decide) (Nat.le_of_ble_eq_true rfl) ?_
  refine V.iconst_ (nI 0) d_World_sumOfHolds_0 (by decide +kernel) ?_
  refine V.istore_n d_World_sumOfHolds_1 (by decide) ?_
  refine V.iconst_ (nI 0) d_World_sumOfHolds_2 (by decide +kernel) ?_
  refine V.istore_n d_World_sumOfHolds_3 (by decide) ?_
  refine V.lc (ls' := [(0, .ref (wb w)), (1, .int (smh (W w) 0)), (2, .int (nI 0))]) rfl ?_
  refine up_to (G := fun k => V l M_World_sumOfHolds d 0 0 4 [(0, .ref (wb w)), (1, .int (smh (W w) k)), (2, .int (nI k))] [] n (co R W Z T kn h0) 0 0 Q) (36) ?_ (fun k hk hn => ?_) 0 (by omega)
  · skip
    refine V.iload_n d_World_sumOfHolds_4 rfl ?_
    refine V.bipush_ (nI 36) d_World_sumOfHolds_5 (by decide +kernel) ?_
    refine V.geN (tgt := 25) d_World_sumOfHolds_7 (by decide) (by omega) (by omega) (fun c_7 => ?_) (fun c_7 => ?_)
    · skip
      refine V.iload_n d_World_sumOfHolds_25 rfl ?_
      refine V.iret d_World_sumOfHolds_26 rfl (Nat.le_of_ble_eq_true rfl) (Nat.le_of_ble_eq_true rfl) ?_
      exact hQ
    · skip
      exact absurd c_7 (by omega)
  · skip
    refine V.iload_n d_World_sumOfHolds_4 rfl ?_
    refine V.bipush_ (nI 36) d_World_sumOfHolds_5 (by decide +kernel) ?_
    refine V.geN (tgt := 25) d_World_sumOfHolds_7 (by decide) (by omega) (by omega) (fun c_7 => ?_) (fun c_7 => ?_)
    · skip
      exact absurd c_7 (by omega)
    · skip
      refine V.iload_n d_World_sumOfHolds_10 rfl ?_
      refine V.aload_n d_World_sumOfHolds_11 rfl ?_
      refine V.get d_World_sumOfHolds_12 f_World_9_World (co_s (sc_wd (wb_ds w hw).1)) rfl ?_
      refine V.iload_n d_World_sumOfHolds_15 rfl ?_
      refine V.ialdN d_World_sumOfHolds_16 (co_s (sc_ho (wb_ds w hw).2.1)) (by omega) (by omega) ?_
      rw [gd_at (by omega)]
      refine V.iadd d_World_sumOfHolds_17 ?_
      refine V.istore_n d_World_sumOfHolds_18 (by decide) ?_
      refine V.incN d_World_sumOfHolds_19 rfl (by decide) ?_
      refine V.goto (tgt := 4) d_World_sumOfHolds_22 (by decide) ?_
      exact V.lc rfl hn
abbrev M_World_drawTalk : MD := (⟨"FelledByNames$World", "drawTalk", "()V"⟩, prog_12_method_8_code, 2, none, fun _ => True)
theorem drvN (z : Int32) : drv z = nI (drv z).toNatClampNeg ∧ (drv z).toNatClampNeg < 2 ^ 24 := by
  have h : drv z = nI ((drz z).toBitVec.toNat / 2 ^ 8) := by
    apply Int32.toBitVec_inj.mp
    apply BitVec.eq_of_toNat_eq
    unfold drv
    rw [pk_ushr _ _ 8 (by decide +kernel)]
    have : (drz z).toBitVec.toNat < 2 ^ 32 := (drz z).toBitVec.isLt
    rw [pk_tn (by omega)]
  have h2 : (drz z).toBitVec.toNat < 2 ^ 32 := (drz z).toBitVec.isLt
  rw [h, icl (by omega)]
  exact ⟨rfl, by omega⟩
theorem d_World_drawTalk_0 : decode prog_12_method_8_code 0 = .ok (.aload_n 0, 1) := by decide +kernel
theorem d_World_drawTalk_1 : decode prog_12_method_8_code 1 = .ok (.aload_n 0, 1) := by decide +kernel
theorem d_World_drawTalk_2 : decode prog_12_method_8_code 2 = .ok (.getfield 40, 3) := by decide +kernel
theorem f_World_40_World : fok "FelledByNames$World" 40 4 10 := ⟨R_World, F_World, 14, "FelledByNames$World", rfl, i_World, by decide, tm 193 (by decide +kernel) rfl, Or.inl rfl, t_World, t_World_ok, n_World⟩
theorem d_World_drawTalk_5 : decode prog_12_method_8_code 5 = .ok (.ldc 118, 2) := by decide +kernel
theorem d_World_drawTalk_7 : decode prog_12_method_8_code 7 = .ok (.imul, 1) := by decide +kernel
theorem d_World_drawTalk_8 : decode prog_12_method_8_code 8 = .ok (.sipush 12345, 3) := by decide +kernel
theorem d_World_drawTalk_11 : decode prog_12_method_8_code 11 = .ok (.iadd, 1) := by decide +kernel
theorem d_World_drawTalk_12 : decode prog_12_method_8_code 12 = .ok (.putfield 40, 3) := by decide +kernel
theorem fp_World_10 : fpk 4 10 (.int) := ⟨_, _, _, rfl, rfl, by decide +kernel⟩
theorem d_World_drawTalk_15 : decode prog_12_method_8_code 15 = .ok (.aload_n 0, 1) := by decide +kernel
theorem d_World_drawTalk_16 : decode prog_12_method_8_code 16 = .ok (.getfield 40, 3) := by decide +kernel
theorem d_World_drawTalk_19 : decode prog_12_method_8_code 19 = .ok (.bipush 8, 2) := by decide +kernel
theorem d_World_drawTalk_21 : decode prog_12_method_8_code 21 = .ok (.iushr, 1) := by decide +kernel
theorem d_World_drawTalk_22 : decode prog_12_method_8_code 22 = .ok (.istore_n 1, 1) := by decide +kernel
theorem d_World_drawTalk_23 : decode prog_12_method_8_code 23 = .ok (.aload_n 0, 1) := by decide +kernel
theorem d_World_drawTalk_24 : decode prog_12_method_8_code 24 = .ok (.getfield 15, 3) := by decide +kernel
theorem d_World_drawTalk_27 : decode prog_12_method_8_code 27 = .ok (.iload_n 1, 1) := by decide +kernel
theorem d_World_drawTalk_28 : decode prog_12_method_8_code 28 = .ok (.bipush 6, 2) := by decide +kernel
theorem d_World_drawTalk_30 : decode prog_12_method_8_code 30 = .ok (.irem, 1) := by decide +kernel
theorem d_World_drawTalk_31 : decode prog_12_method_8_code 31 = .ok (.iload_n 1, 1) := by decide +kernel
theorem d_World_drawTalk_32 : decode prog_12_method_8_code 32 = .ok (.bipush 8, 2) := by decide +kernel
theorem d_World_drawTalk_34 : decode prog_12_method_8_code 34 = .ok (.idiv, 1) := by decide +kernel
theorem d_World_drawTalk_35 : decode prog_12_method_8_code 35 = .ok (.bipush 10, 2) := by decide +kernel
theorem d_World_drawTalk_37 : decode prog_12_method_8_code 37 = .ok (.irem, 1) := by decide +kernel
theorem d_World_drawTalk_38 : decode prog_12_method_8_code 38 = .ok (.iastore, 1) := by decide +kernel
theorem d_World_drawTalk_39 : decode prog_12_method_8_code 39 = .ok (.return_, 1) := by decide +kernel
set_option maxRecDepth 100000 in
theorem c_World_drawTalk {w : Nat} {l : Launch} {d n : Nat} {R W Z : Nat → Nat → Int32} {T : Nat → Nat → Nat} {kn : Kn} {h0 : HP} {Q : QT} (hw : w < 3) (hT : TI T kn n) (hQ : Q none n (co R (uW W w (drD (W w))) Z T kn h0)) : Ct l M_World_drawTalk d 0 0 [.ref (wb w)] n (co R W Z T kn h0) Q := by
  refine Ct.of (fun _ => trivial) (by decide) (Nat.le_of_ble_eq_true rfl) ?_
  obtain ⟨ev, bv⟩ := drvN (W w 5)
  refine V.aload_n d_World_drawTalk_0 rfl ?_
  refine V.aload_n d_World_drawTalk_1 rfl ?_
  refine V.get d_World_drawTalk_2 f_World_40_World (co_s (sc_wd (wb_ds w hw).1)) rfl ?_
  refine V.ldc (v := 1103515245) d_World_drawTalk_5 (tm 767 (by decide +kernel) rfl) ?_
  refine V.top (y := nI 1103515245) rfl ?_
  refine V.imul d_World_drawTalk_7 ?_
  refine V.sipush_ (nI 12345) d_World_drawTalk_8 (by decide +kernel) ?_
  refine V.iadd d_World_drawTalk_11 ?_
  refine V.top (y := drz (W w 5)) (rfl) ?_
  refine V.put d_World_drawTalk_12 f_World_40_World fp_World_10 (fun _ => rfl) (fun _ => rfl) (co_s (sc_wd (wb_ds w hw).1)) (Nat.le_of_ble_eq_true rfl) ?_
  refine V.eqH (co_uwd (w := w) (j := 5) hw (by decide)) ?_
  refine V.absW (fun W1 hW1 => ?_)
  have e1 : W1 w = upd (W w) 5 (drz (W w 5)) := by rw [hW1, uW_s]
  refine V.aload_n d_World_drawTalk_15 rfl ?_
  refine V.get d_World_drawTalk_16 f_World_40_World (co_s (sc_wd (wb_ds w hw).1)) rfl ?_
  refine V.top (y := drz (W w 5)) (by rw [e1, pk_us]) ?_
  refine V.bipush_ (nI 8) d_World_drawTalk_19 (by decide +kernel) ?_
  refine V.iushr d_World_drawTalk_21 ?_
  refine V.top (y := nI (drv (W w 5)).toNatClampNeg) (ev) ?_
  refine V.istore_n d_World_drawTalk_22 (by decide) ?_
  refine V.aload_n d_World_drawTalk_23 rfl ?_
  refine V.get d_World_drawTalk_24 f_World_15_World (co_s (sc_wd (wb_ds w hw).1)) rfl ?_
  refine V.iload_n d_World_drawTalk_27 rfl ?_
  refine V.bipush_ (nI 6) d_World_drawTalk_28 (by decide +kernel) ?_
  refine V.remN d_World_drawTalk_30 (by omega) (by omega) (by omega) ?_
  refine V.iload_n d_World_drawTalk_31 rfl ?_
  refine V.bipush_ (nI 8) d_World_drawTalk_32 (by decide +kernel) ?_
  refine V.divN d_World_drawTalk_34 (by omega) (by omega) (by omega) ?_
  refine V.bipush_ (nI 10) d_World_drawTalk_35 (by decide +kernel) ?_
  refine V.remN d_World_drawTalk_37 (by omega) (by omega) (by omega) ?_
  refine V.iastN d_World_drawTalk_38 (co_s (sc_ta (wb_ds w hw).2.2.1)) (by omega) (by omega) ?_
  refine V.eqH (co_uta (w := w) hT hw (by omega)) ?_
  refine V.vret d_World_drawTalk_39 rfl (Nat.le_of_ble_eq_true rfl) (Nat.le_of_ble_eq_true rfl) ?_
  rw [hW1, uW_uu, uW_s]
  exact hQ
def ov2 (D : Nat → Int32) (t : Nat) : Bool := decide (D (8 + 6 * tN D (50 + 7 * t + 2) + tN D (50 + 7 * t + 3)) ≤ lim D t) && decide (D (8 + 6 * tN D (50 + 7 * t + 3) + tN D (50 + 7 * t + 2)) ≤ lim D t)
theorem ovr_2 {D : Nat → Int32} {t : Nat} : ovr D t = (decide (D (50 + 7 * t + 6) = nI 1) && ov2 D t) := by unfold ovr ov2; rw [Bool.and_assoc]
abbrev M_World_isOver : MD := (⟨"FelledByNames$World", "isOver", "(LFelledByNames$Tree;)Z"⟩, prog_12_method_12_code, 3, (some .boolean), fun _ => True)
theorem d_World_isOver_0 : decode prog_12_method_12_code 0 = .ok (.aload_n 1, 1) := by decide +kernel
theorem d_World_isOver_1 : decode prog_12_method_12_code 1 = .ok (.aload_n 0, 1) := by decide +kernel
theorem d_World_isOver_2 : decode prog_12_method_12_code 2 = .ok (.getfield 28, 3) := by decide +kernel
theorem d_World_isOver_5 : decode prog_12_method_12_code 5 = .ok (.invokevirtual 164, 3) := by decide +kernel
theorem k_World_164_Tree_limit_TreeU : kU "FelledByNames$World" 164 6 "FelledByNames$Tree" ⟨"FelledByNames$Tree", "limit", "(I)I"⟩ M_Tree_limit 1 := ⟨kB_Tree_limit, tm 750 (by decide +kernel) rfl, tm 615 (by decide +kernel) rfl, ⟨by decide, by decide⟩, tm 613 (by decide +kernel) rfl, ⟨prog_10_method_3_code, 2, (some .int), tm 638 (by decide +kernel) rfl⟩, by decide +kernel, tm 613 (by decide +kernel) rfl, _, rfl, tm 614 (by decide +kernel) rfl⟩
theorem k_World_164_Beech_limit_BeechU : kU "FelledByNames$World" 164 7 "FelledByNames$Tree" ⟨"FelledByNames$Tree", "limit", "(I)I"⟩ M_Beech_limit 1 := ⟨kB_Beech_limit, tm 750 (by decide +kernel) rfl, tm 615 (by decide +kernel) rfl, ⟨by decide, by decide⟩, tm 613 (by decide +kernel) rfl, ⟨prog_10_method_3_code, 2, (some .int), tm 638 (by decide +kernel) rfl⟩, by decide +kernel, tm 617 (by decide +kernel) rfl, _, rfl, tm 616 (by decide +kernel) rfl⟩
theorem k_World_164_Oak_limit_OakU : kU "FelledByNames$World" 164 8 "FelledByNames$Tree" ⟨"FelledByNames$Tree", "limit", "(I)I"⟩ M_Oak_limit 1 := ⟨kB_Oak_limit, tm 750 (by decide +kernel) rfl, tm 615 (by decide +kernel) rfl, ⟨by decide, by decide⟩, tm 613 (by decide +kernel) rfl, ⟨prog_10_method_3_code, 2, (some .int), tm 638 (by decide +kernel) rfl⟩, by decide +kernel, tm 630 (by decide +kernel) rfl, _, rfl, tm 632 (by decide +kernel) rfl⟩
theorem k_World_164_Sapling_limit_SaplingU : kU "FelledByNames$World" 164 9 "FelledByNames$Tree" ⟨"FelledByNames$Tree", "limit", "(I)I"⟩ M_Sapling_limit 1 := ⟨kB_Sapling_limit, tm 750 (by decide +kernel) rfl, tm 615 (by decide +kernel) rfl, ⟨by decide, by decide⟩, tm 613 (by decide +kernel) rfl, ⟨prog_10_method_3_code, 2, (some .int), tm 638 (by decide +kernel) rfl⟩, by decide +kernel, tm 624 (by decide +kernel) rfl, _, rfl, tm 633 (by decide +kernel) rfl⟩
theorem kB_Wedged_limit : kB M_Wedged_limit 1 := ⟨tm 19 (by decide +kernel) rfl, tm 636 (by decide +kernel) rfl, ⟨by decide, by decide, by decide +kernel⟩, by decide⟩
theorem k_World_164_Wedged_limit_WedgedU : kU "FelledByNames$World" 164 10 "FelledByNames$Tree" ⟨"FelledByNames$Tree", "limit", "(I)I"⟩ M_Wedged_limit 1 := ⟨kB_Wedged_limit, tm 750 (by decide +kernel) rfl, tm 615 (by decide +kernel) rfl, ⟨by decide, by decide⟩, tm 613 (by decide +kernel) rfl, ⟨prog_10_method_3_code, 2, (some .int), tm 638 (by decide +kernel) rfl⟩, by decide +kernel, tm 635 (by decide +kernel) rfl, _, rfl, tm 634 (by decide +kernel) rfl⟩
theorem kB_Hollow_limit : kB M_Hollow_limit 1 := ⟨tm 20 (by decide +kernel) rfl, tm 628 (by decide +kernel) rfl, ⟨by decide, by decide, by decide +kernel⟩, by decide⟩
theorem k_World_164_Hollow_limit_HollowU : kU "FelledByNames$World" 164 11 "FelledByNames$Tree" ⟨"FelledByNames$Tree", "limit", "(I)I"⟩ M_Hollow_limit 1 := ⟨kB_Hollow_limit, tm 750 (by decide +kernel) rfl, tm 615 (by decide +kernel) rfl, ⟨by decide, by decide⟩, tm 613 (by decide +kernel) rfl, ⟨prog_10_method_3_code, 2, (some .int), tm 638 (by decide +kernel) rfl⟩, by decide +kernel, tm 627 (by decide +kernel) rfl, _, rfl, tm 626 (by decide +kernel) rfl⟩
theorem kB_Hill_limit : kB M_Hill_limit 1 := ⟨tm 21 (by decide +kernel) rfl, tm 622 (by decide +kernel) rfl, ⟨by decide, by decide, by decide +kernel⟩, by decide⟩
theorem k_World_164_Hill_limit_HillU : kU "FelledByNames$World" 164 12 "FelledByNames$Tree" ⟨"FelledByNames$Tree", "limit", "(I)I"⟩ M_Hill_limit 1 := ⟨kB_Hill_limit, tm 750 (by decide +kernel) rfl, tm 615 (by decide +kernel) rfl, ⟨by decide, by decide⟩, tm 613 (by decide +kernel) rfl, ⟨prog_10_method_3_code, 2, (some .int), tm 638 (by decide +kernel) rfl⟩, by decide +kernel, tm 621 (by decide +kernel) rfl, _, rfl, tm 620 (by decide +kernel) rfl⟩
theorem vs_World_164 {l : Launch} {M : MD} {d mc ms pc : Nat} {ls : List (Nat × Value)} {st : List Value} {n c s w i : Nat} {R W Z : Nat → Nat → Int32} {T : Nat → Nat → Nat} {kn : Kn} {h0 : HP} {Q : QT} {x : Int32} (hd : decode M.2.1 pc = .ok (.invokevirtual 164, 3)) (hM0 : M.1.cls = "FelledByNames$World") (hT : TI T kn n) (hw : w < 3) (hi : i < 8) (hK : tN (W w) (50 + 7 * i + 0) ≤ 6) (hs8 : (st.map fun v => v.category).sum ≤ 8) (hc0 : c ≤ mc) (hs0 : s ≤ ms) (kk : V l M (d + 3) mc ms (pc + 3) ls (.int (lmv (tN (W w) (50 + 7 * i + 0)) (W w (50 + 7 * i + 1)) (W w (50 + 7 * i + 5)) x) :: st) n (co R W Z T kn h0) c s Q) : V l M (d + 3) mc ms pc ls (.int x :: .ref (T w i) :: st) n (co R W Z T kn h0) c s Q := by
  have hb0 := co_t (R := R) (W := W) (Z := Z) (h0 := h0) hT hw hi
  unfold trc at hb0
  have hK0 := hK
  generalize hk : (tN (W w) (50 + 7 * i + 0)) = k at hK hb0 kk
  rcases (show k = 0 ∨ k = 1 ∨ k = 2 ∨ k = 3 ∨ k = 4 ∨ k = 5 ∨ k = 6 by omega) with rfl | rfl | rfl | rfl | rfl | rfl | rfl
  · refine V.callU (M := M) (vs := [.int x]) (by exact hd) (by rw [hM0]; exact k_World_164_Tree_limit_TreeU) hb0 rfl rfl hs8 (by omega) (by omega) (c_Tree_limit (d := d + 2) hT hw hi hK0 ?_)
    first | exact kk | (rw [hk]; exact kk)
  · refine V.callU (M := M) (vs := [.int x]) (by exact hd) (by rw [hM0]; exact k_World_164_Beech_limit_BeechU) hb0 rfl rfl hs8 (by omega) (by omega) (c_Beech_limit (d := d + 1) hT hw hi hK0 ?_)
    first | exact kk | (rw [hk]; exact kk)
  · refine V.callU (M := M) (vs := [.int x]) (by exact hd) (by rw [hM0]; exact k_World_164_Oak_limit_OakU) hb0 rfl rfl hs8 (by omega) (by omega) (c_Oak_limit (d := d + 2) hT hw hi hK0 ?_)
    first | exact kk | (rw [hk]; exact kk)
  · refine V.callU (M := M) (vs := [.int x]) (by exact hd) (by rw [hM0]; exact k_World_164_Sapling_limit_SaplingU) hb0 rfl rfl hs8 (by omega) (by omega) (c_Sapling_limit (d := d + 2) hT hw hi hK0 ?_)
    first | exact kk | (rw [hk]; exact kk)
  · refine V.callU (M := M) (vs := [.int x]) (by exact hd) (by rw [hM0]; exact k_World_164_Wedged_limit_WedgedU) hb0 rfl rfl hs8 (by omega) (by omega) (c_Wedged_limit (d := d + 0) hT hw hi hK0 ?_)
    first | exact kk | (rw [hk]; exact kk)
  · refine V.callU (M := M) (vs := [.int x]) (by exact hd) (by rw [hM0]; exact k_World_164_Hollow_limit_HollowU) hb0 rfl rfl hs8 (by omega) (by omega) (c_Hollow_limit (d := d + 1) hT hw hi hK0 ?_)
    first | exact kk | (rw [hk]; exact kk)
  · refine V.callU (M := M) (vs := [.int x]) (by exact hd) (by rw [hM0]; exact k_World_164_Hill_limit_HillU) hb0 rfl rfl hs8 (by omega) (by omega) (c_Hill_limit (d := d + 1) hT hw hi hK0 ?_)
    first | exact kk | (rw [hk]; exact kk)
theorem d_World_isOver_8 : decode prog_12_method_12_code 8 = .ok (.istore_n 2, 1) := by decide +kernel
theorem d_World_isOver_9 : decode prog_12_method_12_code 9 = .ok (.aload_n 0, 1) := by decide +kernel
theorem d_World_isOver_10 : decode prog_12_method_12_code 10 = .ok (.getfield 9, 3) := by decide +kernel
theorem d_World_isOver_13 : decode prog_12_method_12_code 13 = .ok (.aload_n 1, 1) := by decide +kernel
theorem d_World_isOver_14 : decode prog_12_method_12_code 14 = .ok (.getfield 100, 3) := by decide +kernel
theorem f_World_100_Tree : fok "FelledByNames$World" 100 6 3 := ⟨R_Tree, F_Tree, 8, "FelledByNames$Tree", rfl, i_Tree, by decide, tm 136 (by decide +kernel) rfl, Or.inl rfl, t_Tree, t_Tree_ok, n_Tree⟩
theorem f_World_100_Beech : fok "FelledByNames$World" 100 7 3 := ⟨R_Beech, F_Beech, 8, "FelledByNames$Tree", rfl, i_Beech, by decide, tm 136 (by decide +kernel) rfl, Or.inl rfl, t_Beech, t_Beech_ok, n_Beech⟩
theorem f_World_100_Oak : fok "FelledByNames$World" 100 8 3 := ⟨R_Oak, F_Oak, 8, "FelledByNames$Tree", rfl, i_Oak, by decide, tm 136 (by decide +kernel) rfl, Or.inl rfl, t_Oak, t_Oak_ok, n_Oak⟩
theorem f_World_100_Sapling : fok "FelledByNames$World" 100 9 3 := ⟨R_Sapling, F_Sapling, 8, "FelledByNames$Tree", rfl, i_Sapling, by decide, tm 136 (by decide +kernel) rfl, Or.inl rfl, t_Sapling, t_Sapling_ok, n_Sapling⟩
theorem f_World_100_Wedged : fok "FelledByNames$World" 100 10 3 := ⟨R_Wedged, F_Wedged, 8, "FelledByNames$Tree", rfl, i_Wedged, by decide, tm 136 (by decide +kernel) rfl, Or.inl rfl, t_Wedged, t_Wedged_ok, n_Wedged⟩
theorem f_World_100_Hollow : fok "FelledByNames$World" 100 11 3 := ⟨R_Hollow, F_Hollow, 8, "FelledByNames$Tree", rfl, i_Hollow, by decide, tm 136 (by decide +kernel) rfl, Or.inl rfl, t_Hollow, t_Hollow_ok, n_Hollow⟩
theorem f_World_100_Hill : fok "FelledByNames$World" 100 12 3 := ⟨R_Hill, F_Hill, 8, "FelledByNames$Tree", rfl, i_Hill, by decide, tm 136 (by decide +kernel) rfl, Or.inl rfl, t_Hill, t_Hill_ok, n_Hill⟩
theorem ft_World_100 : ∀ c, c ≤ 6 → fok "FelledByNames$World" 100 (6 + c) 3 := fun c hc => by
  rcases (show c = 0 ∨ c = 1 ∨ c = 2 ∨ c = 3 ∨ c = 4 ∨ c = 5 ∨ c = 6 by omega) with rfl | rfl | rfl | rfl | rfl | rfl | rfl
  · exact f_World_100_Tree
  · exact f_World_100_Beech
  · exact f_World_100_Oak
  · exact f_World_100_Sapling
  · exact f_World_100_Wedged
  · exact f_World_100_Hollow
  · exact f_World_100_Hill
theorem d_World_isOver_17 : decode prog_12_method_12_code 17 = .ok (.aload_n 1, 1) := by decide +kernel
theorem d_World_isOver_18 : decode prog_12_method_12_code 18 = .ok (.getfield 103, 3) := by decide +kernel
theorem f_World_103_Tree : fok "FelledByNames$World" 103 6 4 := ⟨R_Tree, F_Tree, 8, "FelledByNames$Tree", rfl, i_Tree, by decide, tm 139 (by decide +kernel) rfl, Or.inl rfl, t_Tree, t_Tree_ok, n_Tree⟩
theorem f_World_103_Beech : fok "FelledByNames$World" 103 7 4 := ⟨R_Beech, F_Beech, 8, "FelledByNames$Tree", rfl, i_Beech, by decide, tm 139 (by decide +kernel) rfl, Or.inl rfl, t_Beech, t_Beech_ok, n_Beech⟩
theorem f_World_103_Oak : fok "FelledByNames$World" 103 8 4 := ⟨R_Oak, F_Oak, 8, "FelledByNames$Tree", rfl, i_Oak, by decide, tm 139 (by decide +kernel) rfl, Or.inl rfl, t_Oak, t_Oak_ok, n_Oak⟩
theorem f_World_103_Sapling : fok "FelledByNames$World" 103 9 4 := ⟨R_Sapling, F_Sapling, 8, "FelledByNames$Tree", rfl, i_Sapling, by decide, tm 139 (by decide +kernel) rfl, Or.inl rfl, t_Sapling, t_Sapling_ok, n_Sapling⟩
theorem f_World_103_Wedged : fok "FelledByNames$World" 103 10 4 := ⟨R_Wedged, F_Wedged, 8, "FelledByNames$Tree", rfl, i_Wedged, by decide, tm 139 (by decide +kernel) rfl, Or.inl rfl, t_Wedged, t_Wedged_ok, n_Wedged⟩
theorem f_World_103_Hollow : fok "FelledByNames$World" 103 11 4 := ⟨R_Hollow, F_Hollow, 8, "FelledByNames$Tree", rfl, i_Hollow, by decide, tm 139 (by decide +kernel) rfl, Or.inl rfl, t_Hollow, t_Hollow_ok, n_Hollow⟩
theorem f_World_103_Hill : fok "FelledByNames$World" 103 12 4 := ⟨R_Hill, F_Hill, 8, "FelledByNames$Tree", rfl, i_Hill, by decide, tm 139 (by decide +kernel) rfl, Or.inl rfl, t_Hill, t_Hill_ok, n_Hill⟩
theorem ft_World_103 : ∀ c, c ≤ 6 → fok "FelledByNames$World" 103 (6 + c) 4 := fun c hc => by
  rcases (show c = 0 ∨ c = 1 ∨ c = 2 ∨ c = 3 ∨ c = 4 ∨ c = 5 ∨ c = 6 by omega) with rfl | rfl | rfl | rfl | rfl | rfl | rfl
  · exact f_World_103_Tree
  · exact f_World_103_Beech
  · exact f_World_103_Oak
  · exact f_World_103_Sapling
  · exact f_World_103_Wedged
  · exact f_World_103_Hollow
  · exact f_World_103_Hill
theorem d_World_isOver_21 : decode prog_12_method_12_code 21 = .ok (.invokestatic 106, 3) := by decide +kernel
theorem d_World_isOver_24 : decode prog_12_method_12_code 24 = .ok (.iaload, 1) := by decide +kernel
theorem d_World_isOver_25 : decode prog_12_method_12_code 25 = .ok (.iload_n 2, 1) := by decide +kernel
theorem d_World_isOver_26 : decode prog_12_method_12_code 26 = .ok (.if_icmp .gt 27, 3) := by decide +kernel
theorem d_World_isOver_53 : decode prog_12_method_12_code 53 = .ok (.iconst 0, 1) := by decide +kernel
theorem d_World_isOver_54 : decode prog_12_method_12_code 54 = .ok (.ireturn, 1) := by decide +kernel
theorem d_World_isOver_29 : decode prog_12_method_12_code 29 = .ok (.aload_n 0, 1) := by decide +kernel
theorem d_World_isOver_30 : decode prog_12_method_12_code 30 = .ok (.getfield 9, 3) := by decide +kernel
theorem d_World_isOver_33 : decode prog_12_method_12_code 33 = .ok (.aload_n 1, 1) := by decide +kernel
theorem d_World_isOver_34 : decode prog_12_method_12_code 34 = .ok (.getfield 103, 3) := by decide +kernel
theorem d_World_isOver_37 : decode prog_12_method_12_code 37 = .ok (.aload_n 1, 1) := by decide +kernel
theorem d_World_isOver_38 : decode prog_12_method_12_code 38 = .ok (.getfield 100, 3) := by decide +kernel
theorem d_World_isOver_41 : decode prog_12_method_12_code 41 = .ok (.invokestatic 106, 3) := by decide +kernel
theorem d_World_isOver_44 : decode prog_12_method_12_code 44 = .ok (.iaload, 1) := by decide +kernel
theorem d_World_isOver_45 : decode prog_12_method_12_code 45 = .ok (.iload_n 2, 1) := by decide +kernel
theorem d_World_isOver_46 : decode prog_12_method_12_code 46 = .ok (.if_icmp .gt 7, 3) := by decide +kernel
theorem d_World_isOver_49 : decode prog_12_method_12_code 49 = .ok (.iconst 1, 1) := by decide +kernel
theorem d_World_isOver_50 : decode prog_12_method_12_code 50 = .ok (.goto 4, 3) := by decide +kernel
set_option maxRecDepth 100000 in
theorem c_World_isOver {w i dy : Nat} {l : Launch} {d n : Nat} {R W Z : Nat → Nat → Int32} {T : Nat → Nat → Nat} {kn : Kn} {h0 : HP} {Q : QT} (hw : w < 3) (hT : TI T kn n) (hi : i < 8) (hB : WB (W w)) (hdy : W w 1 = nI dy) (hd9 : dy < 2 ^ 30) (hQ : Q (some (.int (bi (ov2 (W w) i)))) n (co R W Z T kn h0)) : Ct l M_World_isOver (d + 3) 0 0 [.ref (wb w), .ref (T w i)] n (co R W Z T kn h0) Q := by
  refine Ct.of (fun _ => trivial) (by decide) (Nat.le_of_ble_eq_true rfl) ?_
  obtain ⟨e2, b2⟩ := (hB.k2 hi).t (by decide)
  obtain ⟨e3, b3⟩ := (hB.k3 hi).t (by decide)
  unfold ov2 at hQ
  refine V.aload_n d_World_isOver_0 rfl ?_
  refine V.aload_n d_World_isOver_1 rfl ?_
  refine V.get d_World_isOver_2 f_World_28_World (co_s (sc_wd (wb_ds w hw).1)) rfl ?_
  refine vs_World_164 d_World_isOver_5 rfl hT hw hi ((hB).kd hi) (Nat.le_of_ble_eq_true rfl) (by omega) (by omega) ?_
  refine V.top (y := lim (W w) i) (lmv_lim hB hi hdy hd9) ?_
  refine V.istore_n d_World_isOver_8 (by decide) ?_
  refine V.aload_n d_World_isOver_9 rfl ?_
  refine V.get d_World_isOver_10 f_World_9_World (co_s (sc_wd (wb_ds w hw).1)) rfl ?_
  refine V.aload_n d_World_isOver_13 rfl ?_
  refine V.get d_World_isOver_14 (ft_World_100 _ ((hB).kd hi)) (co_t hT hw hi) rfl ?_
  refine V.top (y := nI (tN (W w) (50 + 7 * i + 2))) (e2) ?_
  refine V.aload_n d_World_isOver_17 rfl ?_
  refine V.get d_World_isOver_18 (ft_World_103 _ ((hB).kd hi)) (co_t hT hw hi) rfl ?_
  refine V.top (y := nI (tN (W w) (50 + 7 * i + 3))) (e3) ?_
  refine V.callSN2 d_World_isOver_21 k_World_106_F_cellSN (Nat.le_of_ble_eq_true rfl) (by omega) (by omega) (c_F_cell ?_)
  refine V.ialdN d_World_isOver_24 (co_s (sc_ho (wb_ds w hw).2.1)) (by omega) (by omega) ?_
  rw [gd_at (by omega)]
  refine V.top (y := W w (8 + 6 * tN (W w) (50 + 7 * i + 2) + tN (W w) (50 + 7 * i + 3))) (congrArg (W w) (by omega)) ?_
  refine V.iload_n d_World_isOver_25 rfl ?_
  refine V.icmp_gt (tgt := 53) d_World_isOver_26 (by decide) (fun c_26 => ?_) (fun c_26 => ?_)
  · skip
    refine V.iconst_ (nI 0) d_World_isOver_53 (by decide +kernel) ?_
    refine V.zret d_World_isOver_54 rfl rfl (Nat.le_of_ble_eq_true rfl) (Nat.le_of_ble_eq_true rfl) ?_
    first
    | (rw [decide_eq_true (Int32.not_lt.mp c_26), decide_eq_true (Int32.not_lt.mp c_46)] at hQ; exact hQ)
    | (rw [decide_eq_true (Int32.not_lt.mp c_26), decide_eq_false (Int32.not_le.mpr c_46)] at hQ; exact hQ)
    | (rw [decide_eq_false (Int32.not_le.mpr c_26), Bool.false_and] at hQ; exact hQ)
  · skip
    refine V.aload_n d_World_isOver_29 rfl ?_
    refine V.get d_World_isOver_30 f_World_9_World (co_s (sc_wd (wb_ds w hw).1)) rfl ?_
    refine V.aload_n d_World_isOver_33 rfl ?_
    refine V.get d_World_isOver_34 (ft_World_103 _ ((hB).kd hi)) (co_t hT hw hi) rfl ?_
    refine V.top (y := nI (tN (W w) (50 + 7 * i + 3))) (e3) ?_
    refine V.aload_n d_World_isOver_37 rfl ?_
    refine V.get d_World_isOver_38 (ft_World_100 _ ((hB).kd hi)) (co_t hT hw hi) rfl ?_
    refine V.top (y := nI (tN (W w) (50 + 7 * i + 2))) (e2) ?_
    refine V.callSN2 d_World_isOver_41 k_World_106_F_cellSN (Nat.le_of_ble_eq_true rfl) (by omega) (by omega) (c_F_cell ?_)
    refine V.ialdN d_World_isOver_44 (co_s (sc_ho (wb_ds w hw).2.1)) (by omega) (by omega) ?_
    rw [gd_at (by omega)]
    refine V.top (y := W w (8 + 6 * tN (W w) (50 + 7 * i + 3) + tN (W w) (50 + 7 * i + 2))) (congrArg (W w) (by omega)) ?_
    refine V.iload_n d_World_isOver_45 rfl ?_
    refine V.icmp_gt (tgt := 53) d_World_isOver_46 (by decide) (fun c_46 => ?_) (fun c_46 => ?_)
    · skip
      refine V.iconst_ (nI 0) d_World_isOver_53 (by decide +kernel) ?_
      refine V.zret d_World_isOver_54 rfl rfl (Nat.le_of_ble_eq_true rfl) (Nat.le_of_ble_eq_true rfl) ?_
      first
      | (rw [decide_eq_true (Int32.not_lt.mp c_26), decide_eq_true (Int32.not_lt.mp c_46)] at hQ; exact hQ)
      | (rw [decide_eq_true (Int32.not_lt.mp c_26), decide_eq_false (Int32.not_le.mpr c_46)] at hQ; exact hQ)
      | (rw [decide_eq_false (Int32.not_le.mpr c_26), Bool.false_and] at hQ; exact hQ)
    · skip
      refine V.iconst_ (nI 1) d_World_isOver_49 (by decide +kernel) ?_
      refine V.goto (tgt := 54) d_World_isOver_50 (by decide) ?_
      refine V.zret d_World_isOver_54 rfl rfl (Nat.le_of_ble_eq_true rfl) (Nat.le_of_ble_eq_true rfl) ?_
      first
      | (rw [decide_eq_true (Int32.not_lt.mp c_26), decide_eq_true (Int32.not_lt.mp c_46)] at hQ; exact hQ)
      | (rw [decide_eq_true (Int32.not_lt.mp c_26), decide_eq_false (Int32.not_le.mpr c_46)] at hQ; exact hQ)
      | (rw [decide_eq_false (Int32.not_le.mpr c_26), Bool.false_and] at hQ; exact hQ)
