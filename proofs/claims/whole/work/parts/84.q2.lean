section UT
variable {f : Nat → Int32} {sz : Nat} {wd : Bool} {o : Option (PS → PS)} {s : PS}
end UT
set_option maxRecDepth 100000 in
theorem c_Text_readOpen33Q {l : Launch} {R W Z : Nat → Nat → Int32} {T : Nat → Nat → Nat} {kn : Kn} {h0 : HP} {u sz op : Nat} {n : Nat} {Q : QT} {s : PS} {L : List Nat} {u2 : PS → PS} {y : Nat} (hu : u < 2) (hsz : sz ≤ 50) (hz : Z 1 1 = nI sz) (hB : ∀ j, j < sz → ∃ c, c < 256 ∧ R 2 j = nI c) (gu : Gp sz u2) (hu2 : (∀ (n : Nat) (Q : QT) (s : PS) (L : List Nat), s.1 ≤ sz → s.2.2.length ≤ s.1 → RL s L → (∀ L2, RL (u2 s) L2 → Q none n (coQ (uA R (6 + 6 * u + 1) (wrt (R (6 + 6 * u + 1)) 0 (L2))) W (zT Z u (u2 s) (L2).length (op + 1)) T kn h0)) → Ct l M_Text_readPart (y + 5) 0 0 [.ref (3 + 6 * u)] n (coQ (uA R (6 + 6 * u + 1) (wrt (R (6 + 6 * u + 1)) 0 (L))) W (zT Z u (s) (L).length (op + 1)) T kn h0) Q)) (h1 : s.1 ≤ sz) (h2 : s.2.2.length ≤ s.1) (hR : RL s L) (hc : hr (R 2) sz s = nI 33) (hQ : ∀ L2, RL (ly 20033 (u2 (adv s))) L2 → Q none n (coQ (uA R (6 + 6 * u + 1) (wrt (R (6 + 6 * u + 1)) 0 (L2))) W (zT Z u (ly 20033 (u2 (adv s))) (L2).length op) T kn h0)) : Ct l M_Text_readOpen (y + 6) 0 0 [.ref (3 + 6 * u), .int (nI 33)] n (coQ (uA R (6 + 6 * u + 1) (wrt (R (6 + 6 * u + 1)) 0 (L))) W (zT Z u (s) (L).length op) T kn h0) Q := by
  have hx := (hr_lt (by decide) hc).1
  have hxf := (hr_lt (by decide) hc).2
  obtain ⟨g1, g2, g3⟩ := gu (adv s) hx
  have ga : (adv s).1 = s.1 + 1 := rfl
  have gb : (adv s).2.2 = s.2.2 := rfl
  rw [ga] at g1 g3
  rw [gb] at g3
  refine Ct.of (fun _ => trivial) (by decide) (Nat.le_of_ble_eq_true rfl) ?_
  refine V.aload_n d_Text_readOpen_0 rfl ?_
  refine V.dup rfl d_Text_readOpen_1 ?_
  refine V.get d_Text_readOpen_2 f_Text_27_Text (co_sQ (sc_txQ (tx_dsQ u hu).1)) rfl ?_
  refine V.top (y := nI (s).1) zT_7 ?_
  refine V.iconst_ (nI 1) d_Text_readOpen_5 (by decide +kernel) ?_
  refine V.addN d_Text_readOpen_6 ?_
  refine V.put d_Text_readOpen_7 f_Text_27_Text fp_Text_7 (fun _ => rfl) (fun _ => rfl) (co_sQ (sc_txQ (tx_dsQ u hu).1)) (Nat.le_of_ble_eq_true rfl) ?_
  refine V.eqH (co_utxQ (u := u) (k := 7) hu (by decide)) ?_
  rw [zT_at hxf]
  refine V.aload_n d_Text_readOpen_10 rfl ?_
  refine V.dup rfl d_Text_readOpen_11 ?_
  refine V.get d_Text_readOpen_12 f_Text_31_Text (co_sQ (sc_txQ (tx_dsQ u hu).1)) rfl ?_
  refine V.top (y := nI (op)) zT_8 ?_
  refine V.iconst_ (nI 1) d_Text_readOpen_15 (by decide +kernel) ?_
  refine V.addN d_Text_readOpen_16 ?_
  refine V.put d_Text_readOpen_17 f_Text_31_Text fp_Text_8 (fun _ => rfl) (fun _ => rfl) (co_sQ (sc_txQ (tx_dsQ u hu).1)) (Nat.le_of_ble_eq_true rfl) ?_
  refine V.eqH (co_utxQ (u := u) (k := 8) hu (by decide)) ?_
  rw [zT_op]
  refine V.iload_n d_Text_readOpen_20 rfl ?_
  refine V.bipush_ (nI 33) d_Text_readOpen_21 (by decide +kernel) ?_
  refine V.neN (tgt := 43) d_Text_readOpen_23 (by decide) (by omega) (by omega) (fun c_23 => ?_) (fun c_23 => ?_)
  · skip
    exact absurd rfl c_23
  · skip
    refine V.aload_n d_Text_readOpen_26 rfl ?_
    refine V.callV0 d_Text_readOpen_27 k_Text_105_Text_readPart_TextV (co_sQ (sc_txQ (tx_dsQ u hu).1)) (Nat.le_of_ble_eq_true rfl) (by omega) (by omega) (hu2 _ _ (adv s) L hx (by show s.2.2.length ≤ s.1 + 1; omega) hR (fun L2 hR2 => ?_))
    refine V.aload_n d_Text_readOpen_30 rfl ?_
    refine V.get d_Text_readOpen_31 f_Text_20_Text (co_sQ (sc_txQ (tx_dsQ u hu).1)) rfl ?_
    refine V.sipush_ (nI 20033) d_Text_readOpen_34 (by decide +kernel) ?_
    refine V.callV1 d_Text_readOpen_37 k_Text_64_Row_add_RowV (co_sQ (sc_rwQ (tx_dsQ u hu).2.2.2.1)) (Nat.le_of_ble_eq_true rfl) (by omega) (by omega) (c_draftQ (v := 20033) (s := u2 (adv s)) hu hR2 (fun _ => by omega) (fun L3 hR3 => ?_))
    refine V.goto (tgt := 72) d_Text_readOpen_40 (by decide) ?_
    refine V.aload_n d_Text_readOpen_72 rfl ?_
    refine V.dup rfl d_Text_readOpen_73 ?_
    refine V.get d_Text_readOpen_74 f_Text_31_Text (co_sQ (sc_txQ (tx_dsQ u hu).1)) rfl ?_
    refine V.top (y := nI (op + 1)) zT_8 ?_
    refine V.iconst_ (nI 1) d_Text_readOpen_77 (by decide +kernel) ?_
    refine V.subN d_Text_readOpen_78 (by omega) ?_
    refine V.put d_Text_readOpen_79 f_Text_31_Text fp_Text_8 (fun _ => rfl) (fun _ => rfl) (co_sQ (sc_txQ (tx_dsQ u hu).1)) (Nat.le_of_ble_eq_true rfl) ?_
    refine V.eqH (co_utxQ (u := u) (k := 8) hu (by decide)) ?_
    rw [zT_op]
    refine V.vret d_Text_readOpen_82 rfl (Nat.le_of_ble_eq_true rfl) (Nat.le_of_ble_eq_true rfl) ?_
    exact hQ L3 hR3
set_option maxRecDepth 100000 in
theorem c_Text_readOpen40Q {l : Launch} {R W Z : Nat → Nat → Int32} {T : Nat → Nat → Nat} {kn : Kn} {h0 : HP} {u sz op : Nat} {n : Nat} {Q : QT} {s : PS} {L : List Nat} {u2 : PS → PS} {y : Nat} (hu : u < 2) (hsz : sz ≤ 50) (hz : Z 1 1 = nI sz) (hB : ∀ j, j < sz → ∃ c, c < 256 ∧ R 2 j = nI c) (gu : Gp sz u2) (hu2 : (∀ (n : Nat) (Q : QT) (s : PS) (L : List Nat), s.1 ≤ sz → s.2.2.length ≤ s.1 → RL s L → (∀ L2, RL (u2 s) L2 → Q none n (coQ (uA R (6 + 6 * u + 1) (wrt (R (6 + 6 * u + 1)) 0 (L2))) W (zT Z u (u2 s) (L2).length (op + 1)) T kn h0)) → Ct l M_Text_readLevel (y + 5) 0 0 [.ref (3 + 6 * u), .int (nI 0)] n (coQ (uA R (6 + 6 * u + 1) (wrt (R (6 + 6 * u + 1)) 0 (L))) W (zT Z u (s) (L).length (op + 1)) T kn h0) Q)) (h1 : s.1 ≤ sz) (h2 : s.2.2.length ≤ s.1) (hR : RL s L) (hc : hr (R 2) sz s = nI 40) (hQ : ∀ L2, RL (clP (R 2) sz (u2 (adv s))) L2 → Q none n (coQ (uA R (6 + 6 * u + 1) (wrt (R (6 + 6 * u + 1)) 0 (L2))) W (zT Z u (clP (R 2) sz (u2 (adv s))) (L2).length op) T kn h0)) : Ct l M_Text_readOpen (y + 6) 0 0 [.ref (3 + 6 * u), .int (nI 40)] n (coQ (uA R (6 + 6 * u + 1) (wrt (R (6 + 6 * u + 1)) 0 (L))) W (zT Z u (s) (L).length op) T kn h0) Q := by
  have hx := (hr_lt (by decide) hc).1
  have hxf := (hr_lt (by decide) hc).2
  obtain ⟨g1, g2, g3⟩ := gu (adv s) hx
  have ga : (adv s).1 = s.1 + 1 := rfl
  have gb : (adv s).2.2 = s.2.2 := rfl
  rw [ga] at g1 g3
  rw [gb] at g3
  refine Ct.of (fun _ => trivial) (by decide) (Nat.le_of_ble_eq_true rfl) ?_
  refine V.aload_n d_Text_readOpen_0 rfl ?_
  refine V.dup rfl d_Text_readOpen_1 ?_
  refine V.get d_Text_readOpen_2 f_Text_27_Text (co_sQ (sc_txQ (tx_dsQ u hu).1)) rfl ?_
  refine V.top (y := nI (s).1) zT_7 ?_
  refine V.iconst_ (nI 1) d_Text_readOpen_5 (by decide +kernel) ?_
  refine V.addN d_Text_readOpen_6 ?_
  refine V.put d_Text_readOpen_7 f_Text_27_Text fp_Text_7 (fun _ => rfl) (fun _ => rfl) (co_sQ (sc_txQ (tx_dsQ u hu).1)) (Nat.le_of_ble_eq_true rfl) ?_
  refine V.eqH (co_utxQ (u := u) (k := 7) hu (by decide)) ?_
  rw [zT_at hxf]
  refine V.aload_n d_Text_readOpen_10 rfl ?_
  refine V.dup rfl d_Text_readOpen_11 ?_
  refine V.get d_Text_readOpen_12 f_Text_31_Text (co_sQ (sc_txQ (tx_dsQ u hu).1)) rfl ?_
  refine V.top (y := nI (op)) zT_8 ?_
  refine V.iconst_ (nI 1) d_Text_readOpen_15 (by decide +kernel) ?_
  refine V.addN d_Text_readOpen_16 ?_
  refine V.put d_Text_readOpen_17 f_Text_31_Text fp_Text_8 (fun _ => rfl) (fun _ => rfl) (co_sQ (sc_txQ (tx_dsQ u hu).1)) (Nat.le_of_ble_eq_true rfl) ?_
  refine V.eqH (co_utxQ (u := u) (k := 8) hu (by decide)) ?_
  rw [zT_op]
  refine V.iload_n d_Text_readOpen_20 rfl ?_
  refine V.bipush_ (nI 33) d_Text_readOpen_21 (by decide +kernel) ?_
  refine V.neN (tgt := 43) d_Text_readOpen_23 (by decide) (by omega) (by omega) (fun c_23 => ?_) (fun c_23 => ?_)
  · skip
    refine V.aload_n d_Text_readOpen_43 rfl ?_
    refine V.iconst_ (nI 0) d_Text_readOpen_44 (by decide +kernel) ?_
    refine V.callV1 d_Text_readOpen_45 k_Text_86_Text_readLevel_TextV (co_sQ (sc_txQ (tx_dsQ u hu).1)) (Nat.le_of_ble_eq_true rfl) (by omega) (by omega) (hu2 _ _ (adv s) L hx (by show s.2.2.length ≤ s.1 + 1; omega) hR (fun L2 hR2 => ?_))
    refine V.aload_n d_Text_readOpen_48 rfl ?_
    refine V.ldcS (i := 9) d_Text_readOpen_49 rfl rfl rfl (by decide) ?_
    refine V.callV1 d_Text_readOpen_51 k_Text_112_Text_taken_TextV (co_sQ (sc_txQ (tx_dsQ u hu).1)) (Nat.le_of_ble_eq_true rfl) (by omega) (by omega) (c_Text_takenQ (i := 9) (s := u2 (adv s)) (by decide) (by decide) hu hsz hz hB g2 (fun hs => ?_) (fun hs => ?_))
    · skip
      have e41 : hr (R 2) sz (u2 (adv s)) = nI 41 := of_decide_eq_true hs
      refine V.top (y := nI 41) e41 ?_
      refine V.if_ge (tgt := 72) d_Text_readOpen_54 (by decide) (fun c_54 => ?_) (fun c_54 => ?_)
      · skip
        refine V.aload_n d_Text_readOpen_72 rfl ?_
        refine V.dup rfl d_Text_readOpen_73 ?_
        refine V.get d_Text_readOpen_74 f_Text_31_Text (co_sQ (sc_txQ (tx_dsQ u hu).1)) rfl ?_
        refine V.top (y := nI (op + 1)) zT_8 ?_
        refine V.iconst_ (nI 1) d_Text_readOpen_77 (by decide +kernel) ?_
        refine V.subN d_Text_readOpen_78 (by omega) ?_
        refine V.put d_Text_readOpen_79 f_Text_31_Text fp_Text_8 (fun _ => rfl) (fun _ => rfl) (co_sQ (sc_txQ (tx_dsQ u hu).1)) (Nat.le_of_ble_eq_true rfl) ?_
        refine V.eqH (co_utxQ (u := u) (k := 8) hu (by decide)) ?_
        rw [zT_op]
        refine V.vret d_Text_readOpen_82 rfl (Nat.le_of_ble_eq_true rfl) (Nat.le_of_ble_eq_true rfl) ?_
        rw [show clP (R 2) sz (u2 (adv s)) = adv (u2 (adv s)) from if_pos e41] at hQ
        exact hQ L2 hR2
      · skip
        exact absurd (by decide +kernel) c_54
    · skip
      have e41 : ¬ hr (R 2) sz (u2 (adv s)) = nI 41 := of_decide_eq_false hs
      refine V.if_ge (tgt := 72) d_Text_readOpen_54 (by decide) (fun c_54 => ?_) (fun c_54 => ?_)
      · skip
        exact absurd c_54 (by decide +kernel)
      · skip
        refine V.aload_n d_Text_readOpen_57 rfl ?_
        refine V.get d_Text_readOpen_58 f_Text_34_Text (co_sQ (sc_txQ (tx_dsQ u hu).1)) rfl ?_
        refine V.if_ge (tgt := 72) d_Text_readOpen_61 (by decide) (fun c_61 => ?_) (fun c_61 => ?_)
        · skip
          refine V.aload_n d_Text_readOpen_72 rfl ?_
          refine V.dup rfl d_Text_readOpen_73 ?_
          refine V.get d_Text_readOpen_74 f_Text_31_Text (co_sQ (sc_txQ (tx_dsQ u hu).1)) rfl ?_
          refine V.top (y := nI (op + 1)) zT_8 ?_
          refine V.iconst_ (nI 1) d_Text_readOpen_77 (by decide +kernel) ?_
          refine V.subN d_Text_readOpen_78 (by omega) ?_
          refine V.put d_Text_readOpen_79 f_Text_31_Text fp_Text_8 (fun _ => rfl) (fun _ => rfl) (co_sQ (sc_txQ (tx_dsQ u hu).1)) (Nat.le_of_ble_eq_true rfl) ?_
          refine V.eqH (co_utxQ (u := u) (k := 8) hu (by decide)) ?_
          rw [zT_op]
          refine V.vret d_Text_readOpen_82 rfl (Nat.le_of_ble_eq_true rfl) (Nat.le_of_ble_eq_true rfl) ?_
          rw [show clP (R 2) sz (u2 (adv s)) = wg (u2 (adv s)) from if_neg e41, wg_f ((zT_9i (by omega)).mp c_61)] at hQ
          exact hQ L2 hR2
        · skip
          have hxf2 : (u2 (adv s)).2.1 = false := Bool.eq_false_iff.mpr (fun z => c_61 ((zT_9i (by omega)).mpr z))
          refine V.aload_n d_Text_readOpen_64 rfl ?_
          refine V.aload_n d_Text_readOpen_65 rfl ?_
          refine V.get d_Text_readOpen_66 f_Text_27_Text (co_sQ (sc_txQ (tx_dsQ u hu).1)) rfl ?_
          refine V.top (y := nI (u2 (adv s)).1) zT_7 ?_
          refine V.put d_Text_readOpen_69 f_Text_34_Text fp_Text_9 (fun _ => rfl) (fun _ => rfl) (co_sQ (sc_txQ (tx_dsQ u hu).1)) (Nat.le_of_ble_eq_true rfl) ?_
          refine V.eqH (co_utxQ (u := u) (k := 9) hu (by decide)) ?_
          rw [zT_wg hxf2]
          refine V.aload_n d_Text_readOpen_72 rfl ?_
          refine V.dup rfl d_Text_readOpen_73 ?_
          refine V.get d_Text_readOpen_74 f_Text_31_Text (co_sQ (sc_txQ (tx_dsQ u hu).1)) rfl ?_
          refine V.top (y := nI (op + 1)) zT_8 ?_
          refine V.iconst_ (nI 1) d_Text_readOpen_77 (by decide +kernel) ?_
          refine V.subN d_Text_readOpen_78 (by omega) ?_
          refine V.put d_Text_readOpen_79 f_Text_31_Text fp_Text_8 (fun _ => rfl) (fun _ => rfl) (co_sQ (sc_txQ (tx_dsQ u hu).1)) (Nat.le_of_ble_eq_true rfl) ?_
          refine V.eqH (co_utxQ (u := u) (k := 8) hu (by decide)) ?_
          rw [zT_op]
          refine V.vret d_Text_readOpen_82 rfl (Nat.le_of_ble_eq_true rfl) (Nat.le_of_ble_eq_true rfl) ?_
          rw [show clP (R 2) sz (u2 (adv s)) = wg (u2 (adv s)) from if_neg e41] at hQ
          exact hQ L2 (RL_wg hR2)
  · skip
    exact absurd c_23 (by decide)
set_option maxRecDepth 100000 in
theorem c_Text_readPartFQ {l : Launch} {R W Z : Nat → Nat → Int32} {T : Nat → Nat → Nat} {kn : Kn} {h0 : HP} {u sz op : Nat} {d n : Nat} {Q : QT} {s : PS} {L : List Nat} {o : Option (PS → PS)} (hu : u < 2) (hsz : sz ≤ 50) (hz : Z 1 1 = nI sz) (hB : ∀ j, j < sz → ∃ c, c < 256 ∧ R 2 j = nI c) (h1 : s.1 ≤ sz) (h2 : s.2.2.length ≤ s.1) (hR : RL s L) (hf : s.2.1 = true) (hQ : ∀ L2, RL (utP (R 2) sz (decide (u = 1)) o s) L2 → Q none n (coQ (uA R (6 + 6 * u + 1) (wrt (R (6 + 6 * u + 1)) 0 (L2))) W (zT Z u (utP (R 2) sz (decide (u = 1)) o s) (L2).length op) T kn h0)) : Ct l M_Text_readPart (d + 2) 0 0 [.ref (3 + 6 * u)] n (coQ (uA R (6 + 6 * u + 1) (wrt (R (6 + 6 * u + 1)) 0 (L))) W (zT Z u (s) (L).length op) T kn h0) Q := by
  refine Ct.of (fun _ => trivial) (by decide) (Nat.le_of_ble_eq_true rfl) ?_
  refine V.aload_n d_Text_readPart_0 rfl ?_
  refine V.get d_Text_readPart_1 f_Text_41_Text (co_sQ (sc_txQ (tx_dsQ u hu).1)) rfl ?_
  refine V.aload_n d_Text_readPart_4 rfl ?_
  refine V.get d_Text_readPart_5 f_Text_27_Text (co_sQ (sc_txQ (tx_dsQ u hu).1)) rfl ?_
  refine V.top (y := nI (s).1) zT_7 ?_
  refine V.callV1 d_Text_readPart_8 k_Text_116_Row_get_RowV (co_sQ (sc_rwQ rfl)) (Nat.le_of_ble_eq_true rfl) (by omega) (by omega) (c_Row_getQ (a := 1) (N := 50) (sz := sz) rfl rfl (zT_1.trans hz) hsz (by decide) ?_)
  refine V.istore_n d_Text_readPart_11 (by decide) ?_
  refine V.aload_n d_Text_readPart_12 rfl ?_
  refine V.get d_Text_readPart_13 f_Text_34_Text (co_sQ (sc_txQ (tx_dsQ u hu).1)) rfl ?_
  refine V.if_lt (tgt := 20) d_Text_readPart_16 (by decide) (fun c_16 => ?_) (fun c_16 => ?_)
  · skip
    exact absurd ((zT_9i (by omega)).mpr hf) (Int32.not_le.mpr c_16)
  · skip
    refine V.vret d_Text_readPart_19 rfl (Nat.le_of_ble_eq_true rfl) (Nat.le_of_ble_eq_true rfl) ?_
    rw [ut_f hf] at hQ
    exact hQ L hR
set_option maxRecDepth 100000 in
theorem c_Text_readPartNQ {l : Launch} {R W Z : Nat → Nat → Int32} {T : Nat → Nat → Nat} {kn : Kn} {h0 : HP} {u sz op : Nat} {d n : Nat} {Q : QT} {s : PS} {L : List Nat} {o : Option (PS → PS)} (hu : u < 2) (hsz : sz ≤ 50) (hz : Z 1 1 = nI sz) (hB : ∀ j, j < sz → ∃ c, c < 256 ∧ R 2 j = nI c) (h1 : s.1 ≤ sz) (h2 : s.2.2.length ≤ s.1) (hR : RL s L) (hop : op < 100) (hf : s.2.1 = false) (ho : op < 5 → ∀ c, c = 33 ∨ c = 40 → hr (R 2) sz s = nI c → ∀ Q : QT, (∀ L2, RL (opP (R 2) sz o s) L2 → Q none n (coQ (uA R (6 + 6 * u + 1) (wrt (R (6 + 6 * u + 1)) 0 (L2))) W (zT Z u (opP (R 2) sz o s) (L2).length op) T kn h0)) → Ct l M_Text_readOpen (d + 4) 0 0 [.ref (3 + 6 * u), .int (nI c)] n (coQ (uA R (6 + 6 * u + 1) (wrt (R (6 + 6 * u + 1)) 0 (L))) W (zT Z u (s) (L).length op) T kn h0) Q) (ho5 : ¬ op < 5 → o = none) (hQ : ∀ L2, RL (utP (R 2) sz (decide (u = 1)) o s) L2 → Q none n (coQ (uA R (6 + 6 * u + 1) (wrt (R (6 + 6 * u + 1)) 0 (L2))) W (zT Z u (utP (R 2) sz (decide (u = 1)) o s) (L2).length op) T kn h0)) : Ct l M_Text_readPart (d + 5) 0 0 [.ref (3 + 6 * u)] n (coQ (uA R (6 + 6 * u + 1) (wrt (R (6 + 6 * u + 1)) 0 (L))) W (zT Z u (s) (L).length op) T kn h0) Q := by
  refine Ct.of (fun _ => trivial) (by decide) (Nat.le_of_ble_eq_true rfl) ?_
  refine V.aload_n d_Text_readPart_0 rfl ?_
  refine V.get d_Text_readPart_1 f_Text_41_Text (co_sQ (sc_txQ (tx_dsQ u hu).1)) rfl ?_
  refine V.aload_n d_Text_readPart_4 rfl ?_
  refine V.get d_Text_readPart_5 f_Text_27_Text (co_sQ (sc_txQ (tx_dsQ u hu).1)) rfl ?_
  refine V.top (y := nI (s).1) zT_7 ?_
  refine V.callV1 d_Text_readPart_8 k_Text_116_Row_get_RowV (co_sQ (sc_rwQ rfl)) (Nat.le_of_ble_eq_true rfl) (by omega) (by omega) (c_Row_getQ (a := 1) (N := 50) (sz := sz) rfl rfl (zT_1.trans hz) hsz (by decide) ?_)
  refine V.top (y := hr (R 2) sz (s)) (by rw [uA_n (show 1 + 1 ≠ 6 + 6 * u + 1 by omega)]; exact rgt_hr hsz (by omega) hf) ?_
  refine V.istore_n d_Text_readPart_11 (by decide) ?_
  refine V.aload_n d_Text_readPart_12 rfl ?_
  refine V.get d_Text_readPart_13 f_Text_34_Text (co_sQ (sc_txQ (tx_dsQ u hu).1)) rfl ?_
  refine V.if_lt (tgt := 20) d_Text_readPart_16 (by decide) (fun c_16 => ?_) (fun c_16 => ?_)
  · skip
    refine V.iload_n d_Text_readPart_20 rfl ?_
    refine V.callS1 d_Text_readPart_21 k_Text_123_Text_isDigitS (Nat.le_of_ble_eq_true rfl) (by omega) (by omega) (c_Text_isDigit ?_)
    refine V.ifeqB (tgt := 34) d_Text_readPart_24 (by decide) (fun c_24 => ?_) (fun c_24 => ?_)
    · skip
      refine V.iload_n d_Text_readPart_34 rfl ?_
      refine V.if_lt (tgt := 83) d_Text_readPart_35 (by decide) (fun c_35 => ?_) (fun c_35 => ?_)
      · skip
        refine V.iload_n d_Text_readPart_83 rfl ?_
        refine V.bipush_ (nI 33) d_Text_readPart_84 (by decide +kernel) ?_
        refine V.icmp_eq (tgt := 95) d_Text_readPart_86 (by decide) (fun c_86 => ?_) (fun c_86 => ?_)
        · skip
          refine V.aload_n d_Text_readPart_95 rfl ?_
          refine V.get d_Text_readPart_96 f_Text_31_Text (co_sQ (sc_txQ (tx_dsQ u hu).1)) rfl ?_
          refine V.top (y := nI (op)) zT_8 ?_
          refine V.iconst_ (nI 5) d_Text_readPart_99 (by decide +kernel) ?_
          refine V.geN (tgt := 111) d_Text_readPart_100 (by decide) (by omega) (by omega) (fun c_100 => ?_) (fun c_100 => ?_)
          · skip
            refine V.aload_n d_Text_readPart_111 rfl ?_
            refine V.aload_n d_Text_readPart_112 rfl ?_
            refine V.get d_Text_readPart_113 f_Text_27_Text (co_sQ (sc_txQ (tx_dsQ u hu).1)) rfl ?_
            refine V.top (y := nI (s).1) zT_7 ?_
            refine V.put d_Text_readPart_116 f_Text_34_Text fp_Text_9 (fun _ => rfl) (fun _ => rfl) (co_sQ (sc_txQ (tx_dsQ u hu).1)) (Nat.le_of_ble_eq_true rfl) ?_
            refine V.eqH (co_utxQ (u := u) (k := 9) hu (by decide)) ?_
            rw [zT_wg hf]
            refine V.vret d_Text_readPart_119 rfl (Nat.le_of_ble_eq_true rfl) (Nat.le_of_ble_eq_true rfl) ?_
            rw [ut_op (Or.inl c_86), ho5 (by omega)] at hQ
            exact hQ L (RL_wg hR)
          · skip
            refine V.aload_n d_Text_readPart_103 rfl ?_
            refine V.iload_n d_Text_readPart_104 rfl ?_
            refine V.top (y := nI 33) c_86 ?_
            refine V.callV1 d_Text_readPart_105 k_Text_130_Text_readOpen_TextV (co_sQ (sc_txQ (tx_dsQ u hu).1)) (Nat.le_of_ble_eq_true rfl) (by omega) (by omega) (ho c_100 33 (Or.inl rfl) c_86 _ (fun L2 hR2 => ?_))
            refine V.goto (tgt := 119) d_Text_readPart_108 (by decide) ?_
            refine V.vret d_Text_readPart_119 rfl (Nat.le_of_ble_eq_true rfl) (Nat.le_of_ble_eq_true rfl) ?_
            rw [ut_op (Or.inl c_86)] at hQ
            exact hQ L2 hR2
        · skip
          refine V.iload_n d_Text_readPart_89 rfl ?_
          refine V.bipush_ (nI 40) d_Text_readPart_90 (by decide +kernel) ?_
          refine V.icmp_ne (tgt := 111) d_Text_readPart_92 (by decide) (fun c_92 => ?_) (fun c_92 => ?_)
          · skip
            refine V.aload_n d_Text_readPart_111 rfl ?_
            refine V.aload_n d_Text_readPart_112 rfl ?_
            refine V.get d_Text_readPart_113 f_Text_27_Text (co_sQ (sc_txQ (tx_dsQ u hu).1)) rfl ?_
            refine V.top (y := nI (s).1) zT_7 ?_
            refine V.put d_Text_readPart_116 f_Text_34_Text fp_Text_9 (fun _ => rfl) (fun _ => rfl) (co_sQ (sc_txQ (tx_dsQ u hu).1)) (Nat.le_of_ble_eq_true rfl) ?_
            refine V.eqH (co_utxQ (u := u) (k := 9) hu (by decide)) ?_
            rw [zT_wg hf]
            refine V.vret d_Text_readPart_119 rfl (Nat.le_of_ble_eq_true rfl) (Nat.le_of_ble_eq_true rfl) ?_
            rw [ut_no (fun z => z.elim c_86 c_92) (by rw [(hr_by (f := R 2) (sz := sz) (s := s) hB).resolve_right (fun ⟨c, hc, ec⟩ => absurd c_35 (by rw [ec]; exact Int32.not_lt.mpr ((nI_leI (a := 0) (by decide) (by omega)).mpr (Nat.zero_le _))))]; exact nmo_m1 _) c_24] at hQ
            exact hQ L (RL_wg hR)
          · skip
            refine V.aload_n d_Text_readPart_95 rfl ?_
            refine V.get d_Text_readPart_96 f_Text_31_Text (co_sQ (sc_txQ (tx_dsQ u hu).1)) rfl ?_
            refine V.top (y := nI (op)) zT_8 ?_
            refine V.iconst_ (nI 5) d_Text_readPart_99 (by decide +kernel) ?_
            refine V.geN (tgt := 111) d_Text_readPart_100 (by decide) (by omega) (by omega) (fun c_100 => ?_) (fun c_100 => ?_)
            · skip
              refine V.aload_n d_Text_readPart_111 rfl ?_
              refine V.aload_n d_Text_readPart_112 rfl ?_
              refine V.get d_Text_readPart_113 f_Text_27_Text (co_sQ (sc_txQ (tx_dsQ u hu).1)) rfl ?_
              refine V.top (y := nI (s).1) zT_7 ?_
              refine V.put d_Text_readPart_116 f_Text_34_Text fp_Text_9 (fun _ => rfl) (fun _ => rfl) (co_sQ (sc_txQ (tx_dsQ u hu).1)) (Nat.le_of_ble_eq_true rfl) ?_
              refine V.eqH (co_utxQ (u := u) (k := 9) hu (by decide)) ?_
              rw [zT_wg hf]
              refine V.vret d_Text_readPart_119 rfl (Nat.le_of_ble_eq_true rfl) (Nat.le_of_ble_eq_true rfl) ?_
              rw [ut_op (Or.inr c_92), ho5 (by omega)] at hQ
              exact hQ L (RL_wg hR)
            · skip
              refine V.aload_n d_Text_readPart_103 rfl ?_
              refine V.iload_n d_Text_readPart_104 rfl ?_
              refine V.top (y := nI 40) c_92 ?_
              refine V.callV1 d_Text_readPart_105 k_Text_130_Text_readOpen_TextV (co_sQ (sc_txQ (tx_dsQ u hu).1)) (Nat.le_of_ble_eq_true rfl) (by omega) (by omega) (ho c_100 40 (Or.inr rfl) c_92 _ (fun L2 hR2 => ?_))
              refine V.goto (tgt := 119) d_Text_readPart_108 (by decide) ?_
              refine V.vret d_Text_readPart_119 rfl (Nat.le_of_ble_eq_true rfl) (Nat.le_of_ble_eq_true rfl) ?_
              rw [ut_op (Or.inr c_92)] at hQ
              exact hQ L2 hR2
      · skip
        obtain ⟨c, hc, ec⟩ := (hr_by (f := R 2) (sz := sz) (s := s) hB).resolve_left (fun z => c_35 (by rw [z]; decide))
        have hx := (hr_lt (by omega) ec).1
        have hi : u < 10 := by omega
        refine V.aload_n d_Text_readPart_38 rfl ?_
        refine V.get d_Text_readPart_39 f_Text_44_Text (co_sQ (sc_txQ (tx_dsQ u hu).1)) rfl ?_
        refine V.iload_n d_Text_readPart_42 rfl ?_
        refine V.top (y := nI c) ec ?_
        refine V.i2c d_Text_readPart_43 ?_
        refine V.top (y := nI c) (i2c_b c hc) ?_
        refine V.callK1 d_Text_readPart_44 k_Text_120_Str_indexOfK hi (Nat.le_of_ble_eq_true rfl) (by omega) (by omega) (c_Str_indexOf1 hi hc ?_)
        refine V.if_lt (tgt := 83) d_Text_readPart_47 (by decide) (fun c_47 => ?_) (fun c_47 => ?_)
        · skip
          refine V.iload_n d_Text_readPart_83 rfl ?_
          refine V.bipush_ (nI 33) d_Text_readPart_84 (by decide +kernel) ?_
          refine V.icmp_eq (tgt := 95) d_Text_readPart_86 (by decide) (fun c_86 => ?_) (fun c_86 => ?_)
          · skip
            refine V.aload_n d_Text_readPart_95 rfl ?_
            refine V.get d_Text_readPart_96 f_Text_31_Text (co_sQ (sc_txQ (tx_dsQ u hu).1)) rfl ?_
            refine V.top (y := nI (op)) zT_8 ?_
            refine V.iconst_ (nI 5) d_Text_readPart_99 (by decide +kernel) ?_
            refine V.geN (tgt := 111) d_Text_readPart_100 (by decide) (by omega) (by omega) (fun c_100 => ?_) (fun c_100 => ?_)
            · skip
              refine V.aload_n d_Text_readPart_111 rfl ?_
              refine V.aload_n d_Text_readPart_112 rfl ?_
              refine V.get d_Text_readPart_113 f_Text_27_Text (co_sQ (sc_txQ (tx_dsQ u hu).1)) rfl ?_
              refine V.top (y := nI (s).1) zT_7 ?_
              refine V.put d_Text_readPart_116 f_Text_34_Text fp_Text_9 (fun _ => rfl) (fun _ => rfl) (co_sQ (sc_txQ (tx_dsQ u hu).1)) (Nat.le_of_ble_eq_true rfl) ?_
              refine V.eqH (co_utxQ (u := u) (k := 9) hu (by decide)) ?_
              rw [zT_wg hf]
              refine V.vret d_Text_readPart_119 rfl (Nat.le_of_ble_eq_true rfl) (Nat.le_of_ble_eq_true rfl) ?_
              rw [ut_op (Or.inl c_86), ho5 (by omega)] at hQ
              exact hQ L (RL_wg hR)
            · skip
              refine V.aload_n d_Text_readPart_103 rfl ?_
              refine V.iload_n d_Text_readPart_104 rfl ?_
              refine V.top (y := nI 33) c_86 ?_
              refine V.callV1 d_Text_readPart_105 k_Text_130_Text_readOpen_TextV (co_sQ (sc_txQ (tx_dsQ u hu).1)) (Nat.le_of_ble_eq_true rfl) (by omega) (by omega) (ho c_100 33 (Or.inl rfl) c_86 _ (fun L2 hR2 => ?_))
              refine V.goto (tgt := 119) d_Text_readPart_108 (by decide) ?_
              refine V.vret d_Text_readPart_119 rfl (Nat.le_of_ble_eq_true rfl) (Nat.le_of_ble_eq_true rfl) ?_
              rw [ut_op (Or.inl c_86)] at hQ
              exact hQ L2 hR2
          · skip
            refine V.iload_n d_Text_readPart_89 rfl ?_
            refine V.bipush_ (nI 40) d_Text_readPart_90 (by decide +kernel) ?_
            refine V.icmp_ne (tgt := 111) d_Text_readPart_92 (by decide) (fun c_92 => ?_) (fun c_92 => ?_)
            · skip
              refine V.aload_n d_Text_readPart_111 rfl ?_
              refine V.aload_n d_Text_readPart_112 rfl ?_
              refine V.get d_Text_readPart_113 f_Text_27_Text (co_sQ (sc_txQ (tx_dsQ u hu).1)) rfl ?_
              refine V.top (y := nI (s).1) zT_7 ?_
              refine V.put d_Text_readPart_116 f_Text_34_Text fp_Text_9 (fun _ => rfl) (fun _ => rfl) (co_sQ (sc_txQ (tx_dsQ u hu).1)) (Nat.le_of_ble_eq_true rfl) ?_
              refine V.eqH (co_utxQ (u := u) (k := 9) hu (by decide)) ?_
              rw [zT_wg hf]
              refine V.vret d_Text_readPart_119 rfl (Nat.le_of_ble_eq_true rfl) (Nat.le_of_ble_eq_true rfl) ?_
              rw [ut_no (fun z => z.elim c_86 c_92) (by rw [ec]; exact (nmo_ix u hu c hc).2 (Int32.not_le.mpr c_47)) c_24] at hQ
              exact hQ L (RL_wg hR)
            · skip
              refine V.aload_n d_Text_readPart_95 rfl ?_
              refine V.get d_Text_readPart_96 f_Text_31_Text (co_sQ (sc_txQ (tx_dsQ u hu).1)) rfl ?_
              refine V.top (y := nI (op)) zT_8 ?_
              refine V.iconst_ (nI 5) d_Text_readPart_99 (by decide +kernel) ?_
              refine V.geN (tgt := 111) d_Text_readPart_100 (by decide) (by omega) (by omega) (fun c_100 => ?_) (fun c_100 => ?_)
              · skip
                refine V.aload_n d_Text_readPart_111 rfl ?_
                refine V.aload_n d_Text_readPart_112 rfl ?_
                refine V.get d_Text_readPart_113 f_Text_27_Text (co_sQ (sc_txQ (tx_dsQ u hu).1)) rfl ?_
                refine V.top (y := nI (s).1) zT_7 ?_
                refine V.put d_Text_readPart_116 f_Text_34_Text fp_Text_9 (fun _ => rfl) (fun _ => rfl) (co_sQ (sc_txQ (tx_dsQ u hu).1)) (Nat.le_of_ble_eq_true rfl) ?_
                refine V.eqH (co_utxQ (u := u) (k := 9) hu (by decide)) ?_
                rw [zT_wg hf]
                refine V.vret d_Text_readPart_119 rfl (Nat.le_of_ble_eq_true rfl) (Nat.le_of_ble_eq_true rfl) ?_
                rw [ut_op (Or.inr c_92), ho5 (by omega)] at hQ
                exact hQ L (RL_wg hR)
              · skip
                refine V.aload_n d_Text_readPart_103 rfl ?_
                refine V.iload_n d_Text_readPart_104 rfl ?_
                refine V.top (y := nI 40) c_92 ?_
                refine V.callV1 d_Text_readPart_105 k_Text_130_Text_readOpen_TextV (co_sQ (sc_txQ (tx_dsQ u hu).1)) (Nat.le_of_ble_eq_true rfl) (by omega) (by omega) (ho c_100 40 (Or.inr rfl) c_92 _ (fun L2 hR2 => ?_))
                refine V.goto (tgt := 119) d_Text_readPart_108 (by decide) ?_
                refine V.vret d_Text_readPart_119 rfl (Nat.le_of_ble_eq_true rfl) (Nat.le_of_ble_eq_true rfl) ?_
                rw [ut_op (Or.inr c_92)] at hQ
                exact hQ L2 hR2
        · skip
          refine V.aload_n d_Text_readPart_50 rfl ?_
          refine V.get d_Text_readPart_51 f_Text_20_Text (co_sQ (sc_txQ (tx_dsQ u hu).1)) rfl ?_
          refine V.sipush_ (nI 10000) d_Text_readPart_54 (by decide +kernel) ?_
          refine V.aload_n d_Text_readPart_57 rfl ?_
          refine V.get d_Text_readPart_58 f_Text_44_Text (co_sQ (sc_txQ (tx_dsQ u hu).1)) rfl ?_
          refine V.iload_n d_Text_readPart_61 rfl ?_
          refine V.top (y := nI c) ec ?_
          refine V.i2c d_Text_readPart_62 ?_
          refine V.top (y := nI c) (i2c_b c hc) ?_
          refine V.callK1 d_Text_readPart_63 k_Text_120_Str_indexOfK hi (Nat.le_of_ble_eq_true rfl) (by omega) (by omega) (c_Str_indexOf1 hi hc ?_)
          obtain ⟨en, ek⟩ := (nmo_ix u hu c hc).1 (Int32.not_lt.mp c_47)
          refine V.top (y := nI (ixv u c).toNatClampNeg) ek ?_
          refine V.addN d_Text_readPart_66 ?_
          refine V.callV1 d_Text_readPart_67 k_Text_64_Row_add_RowV (co_sQ (sc_rwQ (tx_dsQ u hu).2.2.2.1)) (Nat.le_of_ble_eq_true rfl) (by omega) (by omega) (c_draftQ (v := 10000 + (ixv u c).toNatClampNeg) (s := s) hu hR (fun _ => by omega) (fun L2 hR2 => ?_))
          rw [zT_ly]
          refine V.aload_n d_Text_readPart_70 rfl ?_
          refine V.dup rfl d_Text_readPart_71 ?_
          refine V.get d_Text_readPart_72 f_Text_27_Text (co_sQ (sc_txQ (tx_dsQ u hu).1)) rfl ?_
          refine V.top (y := nI (s).1) zT_7 ?_
          refine V.iconst_ (nI 1) d_Text_readPart_75 (by decide +kernel) ?_
          refine V.addN d_Text_readPart_76 ?_
          refine V.put d_Text_readPart_77 f_Text_27_Text fp_Text_7 (fun _ => rfl) (fun _ => rfl) (co_sQ (sc_txQ (tx_dsQ u hu).1)) (Nat.le_of_ble_eq_true rfl) ?_
          refine V.eqH (co_utxQ (u := u) (k := 7) hu (by decide)) ?_
          rw [zT_at hf]
          refine V.goto (tgt := 119) d_Text_readPart_80 (by decide) ?_
          refine V.vret d_Text_readPart_119 rfl (Nat.le_of_ble_eq_true rfl) (Nat.le_of_ble_eq_true rfl) ?_
          rw [ut_nm (k := (ixv u c).toNatClampNeg) (by rw [ec]; exact en)] at hQ
          have h := hQ L2 (RL_2 hR2 ly_adv2)
          rw [zT_ly] at h
          exact h
    · skip
      refine V.aload_n d_Text_readPart_27 rfl ?_
      refine V.callV0 d_Text_readPart_28 k_Text_127_Text_readNumber_TextV (co_sQ (sc_txQ (tx_dsQ u hu).1)) (Nat.le_of_ble_eq_true rfl) (by omega) (by omega) (c_Text_readNumberQ hu hsz hz hB h1 h2 hR hf c_24 (fun L2 hR2 => ?_))
      refine V.goto (tgt := 119) d_Text_readPart_31 (by decide) ?_
      refine V.vret d_Text_readPart_119 rfl (Nat.le_of_ble_eq_true rfl) (Nat.le_of_ble_eq_true rfl) ?_
      rw [ut_dig c_24] at hQ
      exact hQ L2 hR2
  · skip
    exact absurd c_16 (by rw [zT_9f hf]; decide)
theorem c_Text_readPartQ {l : Launch} {R W Z : Nat → Nat → Int32} {T : Nat → Nat → Nat} {kn : Kn} {h0 : HP} {u sz op : Nat} {d n : Nat} {Q : QT} {s : PS} {L : List Nat} {o : Option (PS → PS)} (hu : u < 2) (hsz : sz ≤ 50) (hz : Z 1 1 = nI sz) (hB : ∀ j, j < sz → ∃ c, c < 256 ∧ R 2 j = nI c) (h1 : s.1 ≤ sz) (h2 : s.2.2.length ≤ s.1) (hR : RL s L) (hop : op < 100) (ho : op < 5 → ∀ c, c = 33 ∨ c = 40 → hr (R 2) sz s = nI c → ∀ Q : QT, (∀ L2, RL (opP (R 2) sz o s) L2 → Q none n (coQ (uA R (6 + 6 * u + 1) (wrt (R (6 + 6 * u + 1)) 0 (L2))) W (zT Z u (opP (R 2) sz o s) (L2).length op) T kn h0)) → Ct l M_Text_readOpen (d + 4) 0 0 [.ref (3 + 6 * u), .int (nI c)] n (coQ (uA R (6 + 6 * u + 1) (wrt (R (6 + 6 * u + 1)) 0 (L))) W (zT Z u (s) (L).length op) T kn h0) Q) (ho5 : ¬ op < 5 → o = none) (hQ : ∀ L2, RL (utP (R 2) sz (decide (u = 1)) o s) L2 → Q none n (coQ (uA R (6 + 6 * u + 1) (wrt (R (6 + 6 * u + 1)) 0 (L2))) W (zT Z u (utP (R 2) sz (decide (u = 1)) o s) (L2).length op) T kn h0)) : Ct l M_Text_readPart (d + 5) 0 0 [.ref (3 + 6 * u)] n (coQ (uA R (6 + 6 * u + 1) (wrt (R (6 + 6 * u + 1)) 0 (L))) W (zT Z u (s) (L).length op) T kn h0) Q := by
  cases hf : s.2.1 with
  | true => exact c_Text_readPartFQ hu hsz hz hB h1 h2 hR hf hQ
  | false => exact c_Text_readPartNQ hu hsz hz hB h1 h2 hR hop hf ho ho5 hQ
