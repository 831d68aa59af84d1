theorem drD_n {D : Nat → Int32} {j : Nat} (h : j < 5 ∨ (5 < j ∧ j < 44) ∨ 50 ≤ j) : drD D j = D j := by
  unfold drD
  rw [pk_un (by have := Nat.mod_lt (drv (D 5)).toNatClampNeg (show 6 > 0 by decide); omega), pk_un (by omega)]
theorem WB.dr {D : Nat → Int32} (h : WB D) : WB (drD D) := by
  unfold drD
  exact (h.w5).ut (Nat.mod_lt _ (by decide)) ⟨_, by have := Nat.mod_lt ((drv (D 5)).toNatClampNeg / 8) (show 10 > 0 by decide); omega, rfl⟩
theorem drD_cst {D : Nat → Int32} {N : Nat} : cst (drD D) N = cst D N := cst_c N (fun k _ => drD_n (by omega))
def lsG (cv wv : Int32 → Int32 → Int32 → Int32) (N : Nat) (ps : Nat → Nat) (np : Nat) (D : Nat → Int32) : Nat → XX := fun k => itr (fun _ X => ((dayG wv N (clI cv ps (drD X.1) np)).1, X.2 ++ (dayG wv N (clI cv ps (drD X.1) np)).2)) k (D, [])
theorem lsG_s {cv wv : Int32 → Int32 → Int32 → Int32} {N : Nat} {ps : Nat → Nat} {np : Nat} {D : Nat → Int32} {k : Nat} : lsG cv wv N ps np D (k + 1) = ((dayG wv N (clI cv ps (drD (lsG cv wv N ps np D k).1) np)).1, (lsG cv wv N ps np D k).2 ++ (dayG wv N (clI cv ps (drD (lsG cv wv N ps np D k).1) np)).2) := rfl
theorem lsG_i {cv wv : Int32 → Int32 → Int32 → Int32} {N : Nat} {ps : Nat → Nat} {np : Nat} {D : Nat → Int32} (hN : N ≤ 8) (hB : WB D) (hp : ∀ i, i < np → ps i < 36) : ∀ k, WB (lsG cv wv N ps np D k).1 ∧ (lsG cv wv N ps np D k).1 0 = D 0 ∧ (lsG cv wv N ps np D k).1 1 = D 1 + nI k ∧ (lsG cv wv N ps np D k).2.length + cst (lsG cv wv N ps np D k).1 N = cst D N := by
  intro k
  induction k with
  | zero =>
    refine ⟨hB, rfl, ?_, Nat.zero_add _⟩
    show D 1 = D 1 + nI 0
    rw [nI_0, Int32.add_zero]
  | succ k ih =>
    obtain ⟨h1, h2, h3, h4⟩ := ih
    rw [lsG_s]
    refine ⟨WB.dg hN (h1.dr.cl np hp), ?_, ?_, ?_⟩
    · show (dayG wv N (clI cv ps (drD (lsG cv wv N ps np D k).1) np)).1 0 = _
      rw [dayG_0, clI_x (by omega) np hp, drD_n (by omega), h2]
    · show (dayG wv N (clI cv ps (drD (lsG cv wv N ps np D k).1) np)).1 1 = _
      rw [dayG_1, clI_x (by omega) np hp, drD_n (by omega), h3, ← nI_add, Int32.add_assoc]
    · show ((lsG cv wv N ps np D k).2 ++ (dayG wv N (clI cv ps (drD (lsG cv wv N ps np D k).1) np)).2).length + cst (dayG wv N (clI cv ps (drD (lsG cv wv N ps np D k).1) np)).1 N = _
      have e := dayG_cnt (wv := wv) (N := N) (D := clI cv ps (drD (lsG cv wv N ps np D k).1) np)
      have e2 : cst (clI cv ps (drD (lsG cv wv N ps np D k).1) np) N = cst (lsG cv wv N ps np D k).1 N := (cst_c N (fun j _ => clI_x (by omega) np hp)).trans drD_cst
      rw [List.length_append]
      omega
/-- one pair goes ahead -/
def thI (cv : Int32 → Int32 → Int32 → Int32) (b : Int32) (dy : Nat) (h : Int32) : Nat → Int32 := fun k => itr (fun i h => hld (h + cv h b (nI ((dy + i) % 7))) (nI 0) (nI 99)) k h
abbrev M_F_days : MD := (⟨"FelledByNames", "days", "(I)I"⟩, prog_1_method_15_code, 3, (some .int), fun _ => True)
theorem d_F_days_0 : decode prog_1_method_15_code 0 = .ok (.iload_n 1, 1) := by decide +kernel
theorem d_F_days_1 : decode prog_1_method_15_code 1 = .ok (.iconst 1, 1) := by decide +kernel
theorem d_F_days_2 : decode prog_1_method_15_code 2 = .ok (.if_icmp .lt 9, 3) := by decide +kernel
theorem d_F_days_11 : decode prog_1_method_15_code 11 = .ok (.aload_n 0, 1) := by decide +kernel
theorem d_F_days_12 : decode prog_1_method_15_code 12 = .ok (.iconst 1, 1) := by decide +kernel
theorem d_F_days_13 : decode prog_1_method_15_code 13 = .ok (.invokevirtual 97, 3) := by decide +kernel
theorem d_F_days_16 : decode prog_1_method_15_code 16 = .ok (.ireturn, 1) := by decide +kernel
theorem d_F_days_5 : decode prog_1_method_15_code 5 = .ok (.iload_n 1, 1) := by decide +kernel
theorem d_F_days_6 : decode prog_1_method_15_code 6 = .ok (.bipush 60, 2) := by decide +kernel
theorem d_F_days_8 : decode prog_1_method_15_code 8 = .ok (.if_icmp .le 9, 3) := by decide +kernel
theorem d_F_days_17 : decode prog_1_method_15_code 17 = .ok (.aload_n 0, 1) := by decide +kernel
theorem d_F_days_18 : decode prog_1_method_15_code 18 = .ok (.getfield 39, 3) := by decide +kernel
theorem d_F_days_21 : decode prog_1_method_15_code 21 = .ok (.getfield 163, 3) := by decide +kernel
theorem d_F_days_24 : decode prog_1_method_15_code 24 = .ok (.iload_n 1, 1) := by decide +kernel
theorem d_F_days_25 : decode prog_1_method_15_code 25 = .ok (.iadd, 1) := by decide +kernel
theorem d_F_days_26 : decode prog_1_method_15_code 26 = .ok (.sipush 9999, 3) := by decide +kernel
theorem d_F_days_29 : decode prog_1_method_15_code 29 = .ok (.if_icmp .le 9, 3) := by decide +kernel
theorem d_F_days_38 : decode prog_1_method_15_code 38 = .ok (.aload_n 0, 1) := by decide +kernel
theorem d_F_days_39 : decode prog_1_method_15_code 39 = .ok (.getfield 39, 3) := by decide +kernel
theorem d_F_days_42 : decode prog_1_method_15_code 42 = .ok (.getfield 197, 3) := by decide +kernel
theorem f_F_197_World : fok "FelledByNames" 197 4 11 := ⟨R_World, F_World, 14, "FelledByNames$World", rfl, i_World, by decide, tm 196 (by decide +kernel) rfl, Or.inl rfl, t_World, t_World_ok, n_World⟩
theorem d_F_days_45 : decode prog_1_method_15_code 45 = .ok (.invokevirtual 190, 3) := by decide +kernel
theorem d_F_days_48 : decode prog_1_method_15_code 48 = .ok (.iconst 0, 1) := by decide +kernel
theorem d_F_days_49 : decode prog_1_method_15_code 49 = .ok (.istore_n 2, 1) := by decide +kernel
theorem d_F_days_50 : decode prog_1_method_15_code 50 = .ok (.iload_n 2, 1) := by decide +kernel
theorem d_F_days_51 : decode prog_1_method_15_code 51 = .ok (.iload_n 1, 1) := by decide +kernel
theorem d_F_days_52 : decode prog_1_method_15_code 52 = .ok (.if_icmp .ge 16, 3) := by decide +kernel
theorem d_F_days_68 : decode prog_1_method_15_code 68 = .ok (.aload_n 0, 1) := by decide +kernel
theorem d_F_days_69 : decode prog_1_method_15_code 69 = .ok (.getfield 39, 3) := by decide +kernel
theorem d_F_days_72 : decode prog_1_method_15_code 72 = .ok (.getfield 197, 3) := by decide +kernel
theorem d_F_days_75 : decode prog_1_method_15_code 75 = .ok (.getfield 181, 3) := by decide +kernel
theorem d_F_days_78 : decode prog_1_method_15_code 78 = .ok (.ireturn, 1) := by decide +kernel
theorem d_F_days_55 : decode prog_1_method_15_code 55 = .ok (.aload_n 0, 1) := by decide +kernel
theorem d_F_days_56 : decode prog_1_method_15_code 56 = .ok (.getfield 39, 3) := by decide +kernel
theorem d_F_days_59 : decode prog_1_method_15_code 59 = .ok (.invokevirtual 200, 3) := by decide +kernel
theorem k_F_200_World_passDay_WorldV : kV "FelledByNames" 200 4 M_World_passDay 0 := ⟨kB_World_passDay, tm 709 (by decide +kernel) rfl, tm 710 (by decide +kernel) rfl, tm 711 (by decide +kernel) rfl, _, rfl, rfl⟩
theorem d_F_days_62 : decode prog_1_method_15_code 62 = .ok (.iinc 2 1, 3) := by decide +kernel
theorem d_F_days_65 : decode prog_1_method_15_code 65 = .ok (.goto (-15), 3) := by decide +kernel
theorem d_F_days_32 : decode prog_1_method_15_code 32 = .ok (.aload_n 0, 1) := by decide +kernel
theorem d_F_days_33 : decode prog_1_method_15_code 33 = .ok (.iconst 3, 1) := by decide +kernel
theorem d_F_days_34 : decode prog_1_method_15_code 34 = .ok (.invokevirtual 97, 3) := by decide +kernel
theorem d_F_days_37 : decode prog_1_method_15_code 37 = .ok (.ireturn, 1) := by decide +kernel
set_option maxRecDepth 100000 in
theorem c_F_days {N np dy len0 len1 : Nat} {ps Wc0 Wc1 : Nat → Nat} {x : Int32} {l : Launch} {d n : Nat} {R W Z : Nat → Nat → Int32} {T : Nat → Nat → Nat} {kn : Kn} {h0 : HP} {Q : QT} (hN : N ≤ 8) (e0 : W 0 0 = nI N) (hx0 : TX R Z 0 Wc0 len0) (hx1 : TX R Z 1 Wc1 len1) (hp : PR R Z 0 np ps) (hT : TI T kn n) (hK : KO (cvc Wc0 len0) kn) (hB0 : WB (W 0)) (hdy : W 0 1 = nI dy) (hd9 : dy ≤ 9999) (hE : wi x (nI 1) (nI 60) = false → Q (some (.int (-1000000000 - nI 1))) n (co (uA R 54 (upd (R 54) 1 (R 54 1 + nI 1))) W Z T kn h0)) (hS : ∀ k, 1 ≤ k → k ≤ 60 → x = nI k → 9999 < dy + k → Q (some (.int (-1000000000 - nI 3))) n (co (uA R 54 (upd (R 54) 3 (R 54 3 + nI 1))) W Z T kn h0)) (hOk : ∀ k, 1 ≤ k → k ≤ 60 → x = nI k → dy + k ≤ 9999 → ∀ (R1 W1 Z1 : Nat → Nat → Int32) (kn1 : Kn) (n1 : Nat), FR 0 R Z W R1 Z1 W1 → W1 0 = (dsG (cvc Wc0 len0) (wvc Wc1 len1) N ps np (W 0) k).1 → TI T kn1 n1 → KO (cvc Wc0 len0) kn1 → Q (some (.int (nI (dsG (cvc Wc0 len0) (wvc Wc1 len1) N ps np (W 0) k).2.length))) n1 (co R1 W1 Z1 T kn1 h0)) : Ct l M_F_days (d + 12) 1 13300 [.ref 0, .int x] n (co R W Z T kn h0) Q := by
  refine Ct.of (fun _ => trivial) (by decide) (Nat.le_of_ble_eq_true rfl) ?_
  have hps : ∀ i, i < np → ps i < 36 := fun i hi => (hp.2.2 i hi).1
  have hw4 : wb 0 + 4 = 19 := rfl
  have hw5 : wb 0 + 5 = 20 := rfl
  have hw6 : wb 0 + 6 = 21 := rfl
  refine V.iload_n d_F_days_0 rfl ?_
  refine V.iconst_ (nI 1) d_F_days_1 (by decide +kernel) ?_
  refine V.icmp_lt (tgt := 11) d_F_days_2 (by decide) (fun c_2 => ?_) (fun c_2 => ?_)
  · skip
    refine V.aload_n d_F_days_11 rfl ?_
    refine V.iconst_ (nI 1) d_F_days_12 (by decide +kernel) ?_
    refine V.callV1 d_F_days_13 k_F_97_F_error_FV (co_s sc_ob) (Nat.le_of_ble_eq_true rfl) (by omega) (by omega) (c_F_error (by decide) ?_)
    refine V.iret d_F_days_16 rfl (by omega) (by omega) ?_
    exact hE (by unfold wi; rw [decide_eq_false (Int32.not_le.mpr c_2), Bool.false_and])
  · skip
    refine V.iload_n d_F_days_5 rfl ?_
    refine V.bipush_ (nI 60) d_F_days_6 (by decide +kernel) ?_
    refine V.icmp_le (tgt := 17) d_F_days_8 (by decide) (fun c_8 => ?_) (fun c_8 => ?_)
    · skip
      obtain ⟨m, hm1, hm8, rfl⟩ := wi_nat1 (k := 60) (by decide) (show wi x (nI 1) (nI 60) = true by unfold wi; rw [decide_eq_true (Int32.not_lt.mp c_2), decide_eq_true c_8]; rfl)
      refine V.aload_n d_F_days_17 rfl ?_
      refine V.get d_F_days_18 f_F_39_F (co_s sc_ob) rfl ?_
      refine V.get d_F_days_21 f_F_163_World (co_s (sc_wd (wb_ds 0 (by decide)).1)) rfl ?_
      refine V.top (y := nI dy) (hdy) ?_
      refine V.iload_n d_F_days_24 rfl ?_
      refine V.addN d_F_days_25 ?_
      refine V.sipush_ (nI 9999) d_F_days_26 (by decide +kernel) ?_
      refine V.leN (tgt := 38) d_F_days_29 (by decide) (by omega) (by omega) (fun c_29 => ?_) (fun c_29 => ?_)
      · skip
        refine V.aload_n d_F_days_38 rfl ?_
        refine V.get d_F_days_39 f_F_39_F (co_s sc_ob) rfl ?_
        refine V.get d_F_days_42 f_F_197_World (co_s (sc_wd (wb_ds 0 (by decide)).1)) rfl ?_
        refine V.callV0 d_F_days_45 k_F_190_Row_clear_RowV (co_s (sc_rw (wb_ds 0 (by decide)).2.2.2.2.1)) (Nat.le_of_ble_eq_true rfl) (by omega) (by omega) (c_Row_clear (wb_ds 0 (by decide)).2.2.2.2.1 ?_)
        refine V.iconst_ (nI 0) d_F_days_48 (by decide +kernel) ?_
        refine V.istore_n d_F_days_49 (by decide) ?_
        refine V.wd (c' := 1 - bue len0 np kn) (s' := 13300 * (1 - bue len0 np kn)) (Nat.zero_le _) (Nat.zero_le _) ?_
        refine V.lc (ls' := [(0, .ref 0), (1, .int (nI m)), (2, .int (nI 0))]) rfl ?_
        refine up_to (G := fun k => ∀ (R1 W1 Z1 : Nat → Nat → Int32) (kn1 : Kn) (n1 : Nat), FR 0 R Z W R1 Z1 W1 → W1 0 = (dsG (cvc Wc0 len0) (wvc Wc1 len1) N ps np (W 0) k).1 → Z1 (wb 0 + 4) 1 = nI (dsG (cvc Wc0 len0) (wvc Wc1 len1) N ps np (W 0) k).2.length → TI T kn1 n1 → KO (cvc Wc0 len0) kn1 → V l M_F_days (d + 12) 1 13300 50 [(0, .ref 0), (1, .int (nI m)), (2, .int (nI k))] [] n1 (co R1 W1 Z1 T kn1 h0) (1 - bue len0 np kn1) (13300 * (1 - bue len0 np kn1)) Q) (m) ?_ (fun k hk hn => ?_) 0 (by omega) R W (uZ Z (wb 0 + 4) 1 (nI 0)) kn n ⟨fun _ _ _ _ _ => rfl, fun b j h => uZ_n h, fun _ _ => rfl⟩ rfl uZ_s hT hK
        · skip
          intro R1 W1 Z1 kn1 n1 hF1 hW1 hz4 hT1 hK1
          have hbl := bue_le (len := len0) (np := np) (kn := kn1)
          refine V.iload_n d_F_days_50 rfl ?_
          refine V.iload_n d_F_days_51 rfl ?_
          refine V.geN (tgt := 68) d_F_days_52 (by decide) (by omega) (by omega) (fun c_52 => ?_) (fun c_52 => ?_)
          · skip
            refine V.aload_n d_F_days_68 rfl ?_
            refine V.get d_F_days_69 f_F_39_F (co_s sc_ob) rfl ?_
            refine V.get d_F_days_72 f_F_197_World (co_s (sc_wd (wb_ds 0 (by decide)).1)) rfl ?_
            refine V.get d_F_days_75 f_F_181_Row (co_s (sc_rw (wb_ds 0 (by decide)).2.2.2.2.1)) rfl ?_
            refine V.iret d_F_days_78 rfl (by omega) (by omega) ?_
            have hz4q : Z1 (wb 0 + 4) 1 = _ := hz4
            first
            | (rw [hz4]; exact hOk m hm1 hm8 rfl (by omega) R1 W1 Z1 kn1 n1 hF1 hW1 hT1 hK1)
          · skip
            exact absurd c_52 (by omega)
        · skip
          intro R1 W1 Z1 kn1 n1 hF1 hW1 hz4 hT1 hK1
          obtain ⟨g1, g2, g3, g4⟩ := dsG_i (cv := cvc Wc0 len0) (wv := wvc Wc1 len1) (N := N) (ps := ps) (np := np) hN hB0 hps k
          have hB1 : WB (W1 0) := by rw [hW1]; exact g1
          have hbl := bue_le (len := len0) (np := np) (kn := kn1)
          have hcl := cst_le (D := W 0) N
          have e01 : W1 0 0 = nI N := by rw [hW1, g2]; exact e0
          have ed : W1 0 1 = nI (dy + k) := by rw [hW1, g3, hdy, nI_add]
          refine V.iload_n d_F_days_50 rfl ?_
          refine V.iload_n d_F_days_51 rfl ?_
          refine V.geN (tgt := 68) d_F_days_52 (by decide) (by omega) (by omega) (fun c_52 => ?_) (fun c_52 => ?_)
          · skip
            exact absurd c_52 (by omega)
          · skip
            refine V.aload_n d_F_days_55 rfl ?_
            refine V.get d_F_days_56 f_F_39_F (co_s sc_ob) rfl ?_
            refine V.callV0 d_F_days_59 k_F_200_World_passDay_WorldV (co_s (sc_wd (wb_ds 0 (by decide)).1)) (Nat.le_of_ble_eq_true rfl) (by omega) (by omega) (c_World_passDay (w := 0) (B := bue len0 np kn1) (by decide) hN e01 (hF1.tx (by decide) hx0) (hF1.tx (by decide) hx1) (hF1.pr hp) hT1 hK1 (Nat.le_refl _) hB1 ed (by omega) hz4 (by rw [hW1]; omega) (fun R2 W2 Z2 kn2 n2 hF2 hW2 hr52 hz42 hr62 hT2 hK2 hb2 hn2 => ?_))
            refine V.incN d_F_days_62 rfl (by decide) ?_
            refine V.goto (tgt := 50) d_F_days_65 (by decide) ?_
            refine V.wd (c' := 1 - bue len0 np kn2) (s' := 13300 * (1 - bue len0 np kn2)) (by omega) (by omega) ?_
            refine V.lc rfl (hn R2 W2 Z2 kn2 n2 (hF1.tr hF2) ?_ ?_ hT2 hK2)
            · rw [hW2, hW1]; rfl
            · rw [hz42, dsG_s, List.length_append, hW1]
      · skip
        refine V.aload_n d_F_days_32 rfl ?_
        refine V.iconst_ (nI 3) d_F_days_33 (by decide +kernel) ?_
        refine V.callV1 d_F_days_34 k_F_97_F_error_FV (co_s sc_ob) (Nat.le_of_ble_eq_true rfl) (by omega) (by omega) (c_F_error (by decide) ?_)
        refine V.iret d_F_days_37 rfl (by omega) (by omega) ?_
        exact hS m hm1 hm8 rfl (by omega)
    · skip
      refine V.aload_n d_F_days_11 rfl ?_
      refine V.iconst_ (nI 1) d_F_days_12 (by decide +kernel) ?_
      refine V.callV1 d_F_days_13 k_F_97_F_error_FV (co_s sc_ob) (Nat.le_of_ble_eq_true rfl) (by omega) (by omega) (c_F_error (by decide) ?_)
      refine V.iret d_F_days_16 rfl (by omega) (by omega) ?_
      exact hE (by unfold wi; rw [decide_eq_false c_8, Bool.and_false])
abbrev M_F_loose : MD := (⟨"FelledByNames", "loose", "(I)I"⟩, prog_1_method_16_code, 3, (some .int), fun _ => True)
theorem d_F_loose_0 : decode prog_1_method_16_code 0 = .ok (.iload_n 1, 1) := by decide +kernel
theorem d_F_loose_1 : decode prog_1_method_16_code 1 = .ok (.iconst 1, 1) := by decide +kernel
theorem d_F_loose_2 : decode prog_1_method_16_code 2 = .ok (.if_icmp .lt 9, 3) := by decide +kernel
theorem d_F_loose_11 : decode prog_1_method_16_code 11 = .ok (.aload_n 0, 1) := by decide +kernel
theorem d_F_loose_12 : decode prog_1_method_16_code 12 = .ok (.iconst 1, 1) := by decide +kernel
theorem d_F_loose_13 : decode prog_1_method_16_code 13 = .ok (.invokevirtual 97, 3) := by decide +kernel
theorem d_F_loose_16 : decode prog_1_method_16_code 16 = .ok (.ireturn, 1) := by decide +kernel
theorem d_F_loose_5 : decode prog_1_method_16_code 5 = .ok (.iload_n 1, 1) := by decide +kernel
theorem d_F_loose_6 : decode prog_1_method_16_code 6 = .ok (.bipush 40, 2) := by decide +kernel
theorem d_F_loose_8 : decode prog_1_method_16_code 8 = .ok (.if_icmp .le 9, 3) := by decide +kernel
theorem d_F_loose_17 : decode prog_1_method_16_code 17 = .ok (.aload_n 0, 1) := by decide +kernel
theorem d_F_loose_18 : decode prog_1_method_16_code 18 = .ok (.getfield 39, 3) := by decide +kernel
theorem d_F_loose_21 : decode prog_1_method_16_code 21 = .ok (.getfield 163, 3) := by decide +kernel
theorem d_F_loose_24 : decode prog_1_method_16_code 24 = .ok (.iload_n 1, 1) := by decide +kernel
theorem d_F_loose_25 : decode prog_1_method_16_code 25 = .ok (.iadd, 1) := by decide +kernel
theorem d_F_loose_26 : decode prog_1_method_16_code 26 = .ok (.sipush 9999, 3) := by decide +kernel
theorem d_F_loose_29 : decode prog_1_method_16_code 29 = .ok (.if_icmp .le 9, 3) := by decide +kernel
theorem d_F_loose_38 : decode prog_1_method_16_code 38 = .ok (.aload_n 0, 1) := by decide +kernel
theorem d_F_loose_39 : decode prog_1_method_16_code 39 = .ok (.getfield 39, 3) := by decide +kernel
theorem d_F_loose_42 : decode prog_1_method_16_code 42 = .ok (.getfield 197, 3) := by decide +kernel
theorem d_F_loose_45 : decode prog_1_method_16_code 45 = .ok (.invokevirtual 190, 3) := by decide +kernel
theorem d_F_loose_48 : decode prog_1_method_16_code 48 = .ok (.iconst 0, 1) := by decide +kernel
theorem d_F_loose_49 : decode prog_1_method_16_code 49 = .ok (.istore_n 2, 1) := by decide +kernel
theorem d_F_loose_50 : decode prog_1_method_16_code 50 = .ok (.iload_n 2, 1) := by decide +kernel
theorem d_F_loose_51 : decode prog_1_method_16_code 51 = .ok (.iload_n 1, 1) := by decide +kernel
theorem d_F_loose_52 : decode prog_1_method_16_code 52 = .ok (.if_icmp .ge 23, 3) := by decide +kernel
theorem d_F_loose_75 : decode prog_1_method_16_code 75 = .ok (.aload_n 0, 1) := by decide +kernel
theorem d_F_loose_76 : decode prog_1_method_16_code 76 = .ok (.getfield 39, 3) := by decide +kernel
theorem d_F_loose_79 : decode prog_1_method_16_code 79 = .ok (.getfield 197, 3) := by decide +kernel
theorem d_F_loose_82 : decode prog_1_method_16_code 82 = .ok (.getfield 181, 3) := by decide +kernel
theorem d_F_loose_85 : decode prog_1_method_16_code 85 = .ok (.ireturn, 1) := by decide +kernel
theorem d_F_loose_55 : decode prog_1_method_16_code 55 = .ok (.aload_n 0, 1) := by decide +kernel
theorem d_F_loose_56 : decode prog_1_method_16_code 56 = .ok (.getfield 39, 3) := by decide +kernel
theorem d_F_loose_59 : decode prog_1_method_16_code 59 = .ok (.invokevirtual 203, 3) := by decide +kernel
theorem kB_World_drawTalk : kB M_World_drawTalk 0 := ⟨tm 5 (by decide +kernel) rfl, tm 766 (by decide +kernel) rfl, ⟨by decide, by decide, by decide +kernel⟩, by decide⟩
theorem k_F_203_World_drawTalk_WorldV : kV "FelledByNames" 203 4 M_World_drawTalk 0 := ⟨kB_World_drawTalk, tm 763 (by decide +kernel) rfl, tm 764 (by decide +kernel) rfl, tm 765 (by decide +kernel) rfl, _, rfl, rfl⟩
theorem d_F_loose_62 : decode prog_1_method_16_code 62 = .ok (.aload_n 0, 1) := by decide +kernel
theorem d_F_loose_63 : decode prog_1_method_16_code 63 = .ok (.getfield 39, 3) := by decide +kernel
theorem d_F_loose_66 : decode prog_1_method_16_code 66 = .ok (.invokevirtual 200, 3) := by decide +kernel
theorem d_F_loose_69 : decode prog_1_method_16_code 69 = .ok (.iinc 2 1, 3) := by decide +kernel
theorem d_F_loose_72 : decode prog_1_method_16_code 72 = .ok (.goto (-22), 3) := by decide +kernel
theorem d_F_loose_32 : decode prog_1_method_16_code 32 = .ok (.aload_n 0, 1) := by decide +kernel
theorem d_F_loose_33 : decode prog_1_method_16_code 33 = .ok (.iconst 3, 1) := by decide +kernel
theorem d_F_loose_34 : decode prog_1_method_16_code 34 = .ok (.invokevirtual 97, 3) := by decide +kernel
theorem d_F_loose_37 : decode prog_1_method_16_code 37 = .ok (.ireturn, 1) := by decide +kernel
set_option maxRecDepth 100000 in
theorem c_F_loose {N np dy len0 len1 : Nat} {ps Wc0 Wc1 : Nat → Nat} {x : Int32} {l : Launch} {d n : Nat} {R W Z : Nat → Nat → Int32} {T : Nat → Nat → Nat} {kn : Kn} {h0 : HP} {Q : QT} (hN : N ≤ 8) (e0 : W 0 0 = nI N) (hx0 : TX R Z 0 Wc0 len0) (hx1 : TX R Z 1 Wc1 len1) (hp : PR R Z 0 np ps) (hT : TI T kn n) (hK : KO (cvc Wc0 len0) kn) (hB0 : WB (W 0)) (hdy : W 0 1 = nI dy) (hd9 : dy ≤ 9999) (hE : wi x (nI 1) (nI 40) = false → Q (some (.int (-1000000000 - nI 1))) n (co (uA R 54 (upd (R 54) 1 (R 54 1 + nI 1))) W Z T kn h0)) (hS : ∀ k, 1 ≤ k → k ≤ 40 → x = nI k → 9999 < dy + k → Q (some (.int (-1000000000 - nI 3))) n (co (uA R 54 (upd (R 54) 3 (R 54 3 + nI 1))) W Z T kn h0)) (hOk : ∀ k, 1 ≤ k → k ≤ 40 → x = nI k → dy + k ≤ 9999 → ∀ (R1 W1 Z1 : Nat → Nat → Int32) (kn1 : Kn) (n1 : Nat), FR 0 R Z W R1 Z1 W1 → W1 0 = (lsG (cvc Wc0 len0) (wvc Wc1 len1) N ps np (W 0) k).1 → TI T kn1 n1 → KO (cvc Wc0 len0) kn1 → Q (some (.int (nI (lsG (cvc Wc0 len0) (wvc Wc1 len1) N ps np (W 0) k).2.length))) n1 (co R1 W1 Z1 T kn1 h0)) : Ct l M_F_loose (d + 12) 1 13300 [.ref 0, .int x] n (co R W Z T kn h0) Q := by
  refine Ct.of (fun _ => trivial) (by decide) (Nat.le_of_ble_eq_true rfl) ?_
  have hps : ∀ i, i < np → ps i < 36 := fun i hi => (hp.2.2 i hi).1
  have hw4 : wb 0 + 4 = 19 := rfl
  have hw5 : wb 0 + 5 = 20 := rfl
  have hw6 : wb 0 + 6 = 21 := rfl
  refine V.iload_n d_F_loose_0 rfl ?_
  refine V.iconst_ (nI 1) d_F_loose_1 (by decide +kernel) ?_
  refine V.icmp_lt (tgt := 11) d_F_loose_2 (by decide) (fun c_2 => ?_) (fun c_2 => ?_)
  · skip
    refine V.aload_n d_F_loose_11 rfl ?_
    refine V.iconst_ (nI 1) d_F_loose_12 (by decide +kernel) ?_
    refine V.callV1 d_F_loose_13 k_F_97_F_error_FV (co_s sc_ob) (Nat.le_of_ble_eq_true rfl) (by omega) (by omega) (c_F_error (by decide) ?_)
    refine V.iret d_F_loose_16 rfl (by omega) (by omega) ?_
    exact hE (by unfold wi; rw [decide_eq_false (Int32.not_le.mpr c_2), Bool.false_and])
  · skip
    refine V.iload_n d_F_loose_5 rfl ?_
    refine V.bipush_ (nI 40) d_F_loose_6 (by decide +kernel) ?_
    refine V.icmp_le (tgt := 17) d_F_loose_8 (by decide) (fun c_8 => ?_) (fun c_8 => ?_)
    · skip
      obtain ⟨m, hm1, hm8, rfl⟩ := wi_nat1 (k := 40) (by decide) (show wi x (nI 1) (nI 40) = true by unfold wi; rw [decide_eq_true (Int32.not_lt.mp c_2), decide_eq_true c_8]; rfl)
      refine V.aload_n d_F_loose_17 rfl ?_
      refine V.get d_F_loose_18 f_F_39_F (co_s sc_ob) rfl ?_
      refine V.get d_F_loose_21 f_F_163_World (co_s (sc_wd (wb_ds 0 (by decide)).1)) rfl ?_
      refine V.top (y := nI dy) (hdy) ?_
      refine V.iload_n d_F_loose_24 rfl ?_
      refine V.addN d_F_loose_25 ?_
      refine V.sipush_ (nI 9999) d_F_loose_26 (by decide +kernel) ?_
      refine V.leN (tgt := 38) d_F_loose_29 (by decide) (by omega) (by omega) (fun c_29 => ?_) (fun c_29 => ?_)
      · skip
        refine V.aload_n d_F_loose_38 rfl ?_
        refine V.get d_F_loose_39 f_F_39_F (co_s sc_ob) rfl ?_
        refine V.get d_F_loose_42 f_F_197_World (co_s (sc_wd (wb_ds 0 (by decide)).1)) rfl ?_
        refine V.callV0 d_F_loose_45 k_F_190_Row_clear_RowV (co_s (sc_rw (wb_ds 0 (by decide)).2.2.2.2.1)) (Nat.le_of_ble_eq_true rfl) (by omega) (by omega) (c_Row_clear (wb_ds 0 (by decide)).2.2.2.2.1 ?_)
        refine V.iconst_ (nI 0) d_F_loose_48 (by decide +kernel) ?_
        refine V.istore_n d_F_loose_49 (by decide) ?_
        refine V.wd (c' := 1 - bue len0 np kn) (s' := 13300 * (1 - bue len0 np kn)) (Nat.zero_le _) (Nat.zero_le _) ?_
        refine V.lc (ls' := [(0, .ref 0), (1, .int (nI m)), (2, .int (nI 0))]) rfl ?_
        refine up_to (G := fun k => ∀ (R1 W1 Z1 : Nat → Nat → Int32) (kn1 : Kn) (n1 : Nat), FR 0 R Z W R1 Z1 W1 → W1 0 = (lsG (cvc Wc0 len0) (wvc Wc1 len1) N ps np (W 0) k).1 → Z1 (wb 0 + 4) 1 = nI (lsG (cvc Wc0 len0) (wvc Wc1 len1) N ps np (W 0) k).2.length → TI T kn1 n1 → KO (cvc Wc0 len0) kn1 → V l M_F_loose (d + 12) 1 13300 50 [(0, .ref 0), (1, .int (nI m)), (2, .int (nI k))] [] n1 (co R1 W1 Z1 T kn1 h0) (1 - bue len0 np kn1) (13300 * (1 - bue len0 np kn1)) Q) (m) ?_ (fun k hk hn => ?_) 0 (by omega) R W (uZ Z (wb 0 + 4) 1 (nI 0)) kn n ⟨fun _ _ _ _ _ => rfl, fun b j h => uZ_n h, fun _ _ => rfl⟩ rfl uZ_s hT hK
        · skip
          intro R1 W1 Z1 kn1 n1 hF1 hW1 hz4 hT1 hK1
          have hbl := bue_le (len := len0) (np := np) (kn := kn1)
          refine V.iload_n d_F_loose_50 rfl ?_
          refine V.iload_n d_F_loose_51 rfl ?_
          refine V.geN (tgt := 75) d_F_loose_52 (by decide) (by omega) (by omega) (fun c_52 => ?_) (fun c_52 => ?_)
          · skip
            refine V.aload_n d_F_loose_75 rfl ?_
            refine V.get d_F_loose_76 f_F_39_F (co_s sc_ob) rfl ?_
            refine V.get d_F_loose_79 f_F_197_World (co_s (sc_wd (wb_ds 0 (by decide)).1)) rfl ?_
            refine V.get d_F_loose_82 f_F_181_Row (co_s (sc_rw (wb_ds 0 (by decide)).2.2.2.2.1)) rfl ?_
            refine V.iret d_F_loose_85 rfl (by omega) (by omega) ?_
            have hz4q : Z1 (wb 0 + 4) 1 = _ := hz4
            first
            | (rw [hz4]; exact hOk m hm1 hm8 rfl (by omega) R1 W1 Z1 kn1 n1 hF1 hW1 hT1 hK1)
          · skip
            exact absurd c_52 (by omega)
        · skip
          intro R1 W1 Z1 kn1 n1 hF1 hW1 hz4 hT1 hK1
          obtain ⟨g1, g2, g3, g4⟩ := lsG_i (cv := cvc Wc0 len0) (wv := wvc Wc1 len1) (N := N) (ps := ps) (np := np) hN hB0 hps k
          have hB1 : WB (W1 0) := by rw [hW1]; exact g1
          have hbl := bue_le (len := len0) (np := np) (kn := kn1)
          have hcl := cst_le (D := W 0) N
          refine V.iload_n d_F_loose_50 rfl ?_
          refine V.iload_n d_F_loose_51 rfl ?_
          refine V.geN (tgt := 75) d_F_loose_52 (by decide) (by omega) (by omega) (fun c_52 => ?_) (fun c_52 => ?_)
          · skip
            exact absurd c_52 (by omega)
          · skip
            refine V.aload_n d_F_loose_55 rfl ?_
            refine V.get d_F_loose_56 f_F_39_F (co_s sc_ob) rfl ?_
            refine V.callV0 d_F_loose_59 k_F_203_World_drawTalk_WorldV (co_s (sc_wd (wb_ds 0 (by decide)).1)) (Nat.le_of_ble_eq_true rfl) (by omega) (by omega) (c_World_drawTalk (w := 0) (by decide) hT1 ?_)
            refine V.absW (fun Wd hWd => ?_)
            have eDr : Wd 0 = drD (lsG (cvc Wc0 len0) (wvc Wc1 len1) N ps np (W 0) k).1 := by rw [hWd, uW_s, hW1]
            have hB2 : WB (Wd 0) := by rw [eDr]; exact g1.dr
            have e02 : Wd 0 0 = nI N := by rw [eDr, drD_n (by omega), g2]; exact e0
            have ed2 : Wd 0 1 = nI (dy + k) := by rw [eDr, drD_n (by omega), g3, hdy, nI_add]
            have hF12 : FR 0 R Z W R1 Z1 Wd := ⟨hF1.1, hF1.2.1, fun v hv => by rw [hWd, uW_n hv]; exact hF1.2.2 v hv⟩
            refine V.aload_n d_F_loose_62 rfl ?_
            refine V.get d_F_loose_63 f_F_39_F (co_s sc_ob) rfl ?_
            refine V.callV0 d_F_loose_66 k_F_200_World_passDay_WorldV (co_s (sc_wd (wb_ds 0 (by decide)).1)) (Nat.le_of_ble_eq_true rfl) (by omega) (by omega) (c_World_passDay (w := 0) (B := bue len0 np kn1) (by decide) hN e02 (hF12.tx (by decide) hx0) (hF12.tx (by decide) hx1) (hF12.pr hp) hT1 hK1 (Nat.le_refl _) hB2 ed2 (by omega) hz4 (by rw [eDr, drD_cst]; omega) (fun R2 W2 Z2 kn2 n2 hF2 hW2 hr52 hz42 hr62 hT2 hK2 hb2 hn2 => ?_))
            refine V.incN d_F_loose_69 rfl (by decide) ?_
            refine V.goto (tgt := 50) d_F_loose_72 (by decide) ?_
            refine V.wd (c' := 1 - bue len0 np kn2) (s' := 13300 * (1 - bue len0 np kn2)) (by omega) (by omega) ?_
            refine V.lc rfl (hn R2 W2 Z2 kn2 n2 (hF12.tr hF2) ?_ ?_ hT2 hK2)
            · rw [hW2, eDr]; rfl
            · rw [hz42, lsG_s, List.length_append, eDr]
      · skip
        refine V.aload_n d_F_loose_32 rfl ?_
        refine V.iconst_ (nI 3) d_F_loose_33 (by decide +kernel) ?_
        refine V.callV1 d_F_loose_34 k_F_97_F_error_FV (co_s sc_ob) (Nat.le_of_ble_eq_true rfl) (by omega) (by omega) (c_F_error (by decide) ?_)
        refine V.iret d_F_loose_37 rfl (by omega) (by omega) ?_
        exact hS m hm1 hm8 rfl (by omega)
    · skip
      refine V.aload_n d_F_loose_11 rfl ?_
      refine V.iconst_ (nI 1) d_F_loose_12 (by decide +kernel) ?_
      refine V.callV1 d_F_loose_13 k_F_97_F_error_FV (co_s sc_ob) (Nat.le_of_ble_eq_true rfl) (by omega) (by omega) (c_F_error (by decide) ?_)
      refine V.iret d_F_loose_16 rfl (by omega) (by omega) ?_
      exact hE (by unfold wi; rw [decide_eq_false c_8, Bool.and_false])
abbrev M_F_then : MD := (⟨"FelledByNames", "then", "(III)I"⟩, prog_1_method_17_code, 7, (some .int), fun _ => True)
theorem d_F_then_0 : decode prog_1_method_17_code 0 = .ok (.iload_n 1, 1) := by decide +kernel
theorem d_F_then_1 : decode prog_1_method_17_code 1 = .ok (.bipush 60, 2) := by decide +kernel
theorem d_F_then_3 : decode prog_1_method_17_code 3 = .ok (.invokestatic 94, 3) := by decide +kernel
theorem d_F_then_6 : decode prog_1_method_17_code 6 = .ok (.ifCond .eq 11, 3) := by decide +kernel
theorem d_F_then_17 : decode prog_1_method_17_code 17 = .ok (.aload_n 0, 1) := by decide +kernel
theorem d_F_then_18 : decode prog_1_method_17_code 18 = .ok (.iconst 1, 1) := by decide +kernel
theorem d_F_then_19 : decode prog_1_method_17_code 19 = .ok (.invokevirtual 97, 3) := by decide +kernel
theorem d_F_then_22 : decode prog_1_method_17_code 22 = .ok (.ireturn, 1) := by decide +kernel
theorem d_F_then_9 : decode prog_1_method_17_code 9 = .ok (.iload_n 2, 1) := by decide +kernel
theorem d_F_then_10 : decode prog_1_method_17_code 10 = .ok (.iload_n 3, 1) := by decide +kernel
theorem d_F_then_11 : decode prog_1_method_17_code 11 = .ok (.invokestatic 90, 3) := by decide +kernel
theorem d_F_then_14 : decode prog_1_method_17_code 14 = .ok (.ifCond .ne 9, 3) := by decide +kernel
theorem d_F_then_23 : decode prog_1_method_17_code 23 = .ok (.aload_n 0, 1) := by decide +kernel
theorem d_F_then_24 : decode prog_1_method_17_code 24 = .ok (.getfield 39, 3) := by decide +kernel
theorem d_F_then_27 : decode prog_1_method_17_code 27 = .ok (.getfield 101, 3) := by decide +kernel
theorem d_F_then_30 : decode prog_1_method_17_code 30 = .ok (.iload_n 2, 1) := by decide +kernel
theorem d_F_then_31 : decode prog_1_method_17_code 31 = .ok (.iload_n 3, 1) := by decide +kernel
theorem d_F_then_32 : decode prog_1_method_17_code 32 = .ok (.invokestatic 104, 3) := by decide +kernel
theorem d_F_then_35 : decode prog_1_method_17_code 35 = .ok (.iaload, 1) := by decide +kernel
theorem d_F_then_36 : decode prog_1_method_17_code 36 = .ok (.istore 4, 2) := by decide +kernel
theorem d_F_then_38 : decode prog_1_method_17_code 38 = .ok (.aload_n 0, 1) := by decide +kernel
theorem d_F_then_39 : decode prog_1_method_17_code 39 = .ok (.getfield 39, 3) := by decide +kernel
theorem d_F_then_42 : decode prog_1_method_17_code 42 = .ok (.getfield 108, 3) := by decide +kernel
theorem d_F_then_45 : decode prog_1_method_17_code 45 = .ok (.iload_n 2, 1) := by decide +kernel
theorem d_F_then_46 : decode prog_1_method_17_code 46 = .ok (.iaload, 1) := by decide +kernel
theorem d_F_then_47 : decode prog_1_method_17_code 47 = .ok (.aload_n 0, 1) := by decide +kernel
theorem d_F_then_48 : decode prog_1_method_17_code 48 = .ok (.getfield 39, 3) := by decide +kernel
theorem d_F_then_51 : decode prog_1_method_17_code 51 = .ok (.getfield 108, 3) := by decide +kernel
theorem d_F_then_54 : decode prog_1_method_17_code 54 = .ok (.iload_n 3, 1) := by decide +kernel
theorem d_F_then_55 : decode prog_1_method_17_code 55 = .ok (.iaload, 1) := by decide +kernel
theorem d_F_then_56 : decode prog_1_method_17_code 56 = .ok (.iadd, 1) := by decide +kernel
theorem d_F_then_57 : decode prog_1_method_17_code 57 = .ok (.istore 5, 2) := by decide +kernel
theorem d_F_then_59 : decode prog_1_method_17_code 59 = .ok (.iconst 0, 1) := by decide +kernel
theorem d_F_then_60 : decode prog_1_method_17_code 60 = .ok (.istore 6, 2) := by decide +kernel
theorem d_F_then_62 : decode prog_1_method_17_code 62 = .ok (.iload 6, 2) := by decide +kernel
theorem d_F_then_64 : decode prog_1_method_17_code 64 = .ok (.iload_n 1, 1) := by decide +kernel
theorem d_F_then_65 : decode prog_1_method_17_code 65 = .ok (.if_icmp .ge 44, 3) := by decide +kernel
theorem d_F_then_109 : decode prog_1_method_17_code 109 = .ok (.iload 4, 2) := by decide +kernel
theorem d_F_then_111 : decode prog_1_method_17_code 111 = .ok (.ireturn, 1) := by decide +kernel
theorem d_F_then_68 : decode prog_1_method_17_code 68 = .ok (.iload 4, 2) := by decide +kernel
theorem d_F_then_70 : decode prog_1_method_17_code 70 = .ok (.aload_n 0, 1) := by decide +kernel
theorem d_F_then_71 : decode prog_1_method_17_code 71 = .ok (.getfield 25, 3) := by decide +kernel
theorem d_F_then_74 : decode prog_1_method_17_code 74 = .ok (.iload 4, 2) := by decide +kernel
theorem d_F_then_76 : decode prog_1_method_17_code 76 = .ok (.iload 5, 2) := by decide +kernel
theorem d_F_then_78 : decode prog_1_method_17_code 78 = .ok (.aload_n 0, 1) := by decide +kernel
theorem d_F_then_79 : decode prog_1_method_17_code 79 = .ok (.getfield 39, 3) := by decide +kernel
theorem d_F_then_82 : decode prog_1_method_17_code 82 = .ok (.getfield 163, 3) := by decide +kernel
theorem d_F_then_85 : decode prog_1_method_17_code 85 = .ok (.iload 6, 2) := by decide +kernel
theorem d_F_then_87 : decode prog_1_method_17_code 87 = .ok (.iadd, 1) := by decide +kernel
theorem d_F_then_88 : decode prog_1_method_17_code 88 = .ok (.bipush 7, 2) := by decide +kernel
theorem d_F_then_90 : decode prog_1_method_17_code 90 = .ok (.irem, 1) := by decide +kernel
theorem d_F_then_91 : decode prog_1_method_17_code 91 = .ok (.invokevirtual 206, 3) := by decide +kernel
theorem k_F_206_Text_cooling_TextV : kV "FelledByNames" 206 3 M_Text_cooling 3 := ⟨kB_Text_cooling, tm 772 (by decide +kernel) rfl, tm 718 (by decide +kernel) rfl, tm 719 (by decide +kernel) rfl, _, rfl, rfl⟩
theorem d_F_then_94 : decode prog_1_method_17_code 94 = .ok (.iadd, 1) := by decide +kernel
theorem d_F_then_95 : decode prog_1_method_17_code 95 = .ok (.iconst 0, 1) := by decide +kernel
theorem d_F_then_96 : decode prog_1_method_17_code 96 = .ok (.bipush 99, 2) := by decide +kernel
theorem d_F_then_98 : decode prog_1_method_17_code 98 = .ok (.invokestatic 209, 3) := by decide +kernel
theorem k_F_209_F_clampS : kS "FelledByNames" 209 M_F_clamp 3 := ⟨kB_F_clamp, tm 773 (by decide +kernel) rfl, tm 723 (by decide +kernel) rfl⟩
theorem d_F_then_101 : decode prog_1_method_17_code 101 = .ok (.istore 4, 2) := by decide +kernel
theorem d_F_then_103 : decode prog_1_method_17_code 103 = .ok (.iinc 6 1, 3) := by decide +kernel
theorem d_F_then_106 : decode prog_1_method_17_code 106 = .ok (.goto (-44), 3) := by decide +kernel
set_option maxRecDepth 100000 in
theorem c_F_then {dy len0 : Nat} {Wc0 : Nat → Nat} {x y z : Int32} {l : Launch} {d n : Nat} {R W Z : Nat → Nat → Int32} {T : Nat → Nat → Nat} {kn : Kn} {h0 : HP} {Q : QT} (hx0 : TX R Z 0 Wc0 len0) (hT : TI T kn n) (hK : KO (cvc Wc0 len0) kn) (hB0 : WB (W 0)) (hdy : W 0 1 = nI dy) (hd9 : dy ≤ 9999) (hE : (wi x (nI 0) (nI 60) && two y z) = false → Q (some (.int (-1000000000 - nI 1))) n (co (uA R 54 (upd (R 54) 1 (R 54 1 + nI 1))) W Z T kn h0)) (hOk : ∀ k a b, k ≤ 60 → a ≤ 5 → b ≤ 5 → a ≠ b → x = nI k → y = nI a → z = nI b → ∀ (R1 : Nat → Nat → Int32) (kn1 : Kn) (n1 : Nat), (∀ q, q ≠ 8 → R1 q = R q) → TI T kn1 n1 → KO (cvc Wc0 len0) kn1 → Q (some (.int (thI (cvc Wc0 len0) (W 0 (44 + a) + W 0 (44 + b)) dy (W 0 (8 + (a * 6 + b))) k))) n1 (co R1 W Z T kn1 h0)) : Ct l M_F_then (d + 4) 1 13300 [.ref 0, .int x, .int y, .int z] n (co R W Z T kn h0) Q := by
  refine Ct.of (fun _ => trivial) (by decide) (Nat.le_of_ble_eq_true rfl) ?_
  refine V.iload_n d_F_then_0 rfl ?_
  refine V.bipush_ (nI 60) d_F_then_1 (by decide +kernel) ?_
  refine V.callS2 d_F_then_3 k_F_94_F_withinS (Nat.le_of_ble_eq_true rfl) (by omega) (by omega) (c_F_within ?_)
  refine V.ifeqB (tgt := 17) d_F_then_6 (by decide) (fun c_6 => ?_) (fun c_6 => ?_)
  · skip
    refine V.aload_n d_F_then_17 rfl ?_
    refine V.iconst_ (nI 1) d_F_then_18 (by decide +kernel) ?_
    refine V.callV1 d_F_then_19 k_F_97_F_error_FV (co_s sc_ob) (Nat.le_of_ble_eq_true rfl) (by omega) (by omega) (c_F_error (by decide) ?_)
    refine V.iret d_F_then_22 rfl (by omega) (by omega) ?_
    exact hE (by simp only [c_6, Bool.and_false, Bool.false_and, Bool.and_true, Bool.true_and])
  · skip
    refine V.iload_n d_F_then_9 rfl ?_
    refine V.iload_n d_F_then_10 rfl ?_
    refine V.callS2 d_F_then_11 k_F_90_F_areTwoS (Nat.le_of_ble_eq_true rfl) (by omega) (by omega) (c_F_areTwo ?_)
    refine V.ifneB (tgt := 23) d_F_then_14 (by decide) (fun c_14 => ?_) (fun c_14 => ?_)
    · skip
      obtain ⟨m, hm, rfl⟩ := wi_nat (k := 60) (by decide) c_6
      obtain ⟨a, b, ha, hb, hab, rfl, rfl⟩ := two_nat c_14
      obtain ⟨ea, ba⟩ := (hB0.t (show a < 6 by omega)).t (by decide)
      obtain ⟨eb, bb⟩ := (hB0.t (show b < 6 by omega)).t (by decide)
      have ey : W 0 (44 + a) + W 0 (44 + b) = nI (tN (W 0) (44 + a) + tN (W 0) (44 + b)) := by rw [ea, eb, nI_add, tN_of ea (by omega), tN_of eb (by omega)]
      have hth : ∀ k, ∃ q, q ≤ 99 ∧ (thI (cvc Wc0 len0) (W 0 (44 + a) + W 0 (44 + b)) dy (W 0 (8 + (a * 6 + b))) k) = nI q := fun k => by
        cases k with
        | zero => exact hB0.h (show a * 6 + b < 36 by omega)
        | succ k => exact hld_nat (by decide)
      refine V.aload_n d_F_then_23 rfl ?_
      refine V.get d_F_then_24 f_F_39_F (co_s sc_ob) rfl ?_
      refine V.get d_F_then_27 f_F_101_World (co_s (sc_wd (wb_ds 0 (by decide)).1)) rfl ?_
      refine V.iload_n d_F_then_30 rfl ?_
      refine V.iload_n d_F_then_31 rfl ?_
      refine V.callS2 d_F_then_32 k_F_104_F_cellS (Nat.le_of_ble_eq_true rfl) (by omega) (by omega) (c_F_cell ?_)
      refine V.ialdN d_F_then_35 (co_s (sc_ho (wb_ds 0 (by decide)).2.1)) (by omega) (by omega) ?_
      rw [gd_at (by omega)]
      refine V.istore d_F_then_36 (by decide) ?_
      refine V.aload_n d_F_then_38 rfl ?_
      refine V.get d_F_then_39 f_F_39_F (co_s sc_ob) rfl ?_
      refine V.get d_F_then_42 f_F_108_World (co_s (sc_wd (wb_ds 0 (by decide)).1)) rfl ?_
      refine V.iload_n d_F_then_45 rfl ?_
      refine V.ialdN d_F_then_46 (co_s (sc_ta (wb_ds 0 (by decide)).2.2.1)) (by omega) (by omega) ?_
      rw [gd_at (by omega)]
      refine V.aload_n d_F_then_47 rfl ?_
      refine V.get d_F_then_48 f_F_39_F (co_s sc_ob) rfl ?_
      refine V.get d_F_then_51 f_F_108_World (co_s (sc_wd (wb_ds 0 (by decide)).1)) rfl ?_
      refine V.iload_n d_F_then_54 rfl ?_
      refine V.ialdN d_F_then_55 (co_s (sc_ta (wb_ds 0 (by decide)).2.2.1)) (by omega) (by omega) ?_
      rw [gd_at (by omega)]
      refine V.iadd d_F_then_56 ?_
      refine V.top (y := nI (tN (W 0) (44 + a) + tN (W 0) (44 + b))) (ey) ?_
      refine V.istore d_F_then_57 (by decide) ?_
      refine V.iconst_ (nI 0) d_F_then_59 (by decide +kernel) ?_
      refine V.istore d_F_then_60 (by decide) ?_
      refine V.wd (c' := 1 - bud len0 kn) (s' := 13300 * (1 - bud len0 kn)) (Nat.zero_le _) (Nat.zero_le _) ?_
      refine V.lc (ls' := [(0, .ref 0), (1, .int (nI m)), (4, .int (thI (cvc Wc0 len0) (W 0 (44 + a) + W 0 (44 + b)) dy (W 0 (8 + (a * 6 + b))) 0)), (5, .int (nI (tN (W 0) (44 + a) + tN (W 0) (44 + b)))), (6, .int (nI 0))]) rfl ?_
      refine up_to (G := fun k => ∀ (R1 : Nat → Nat → Int32) (kn1 : Kn) (n1 : Nat), (∀ q, q ≠ 8 → R1 q = R q) → TI T kn1 n1 → KO (cvc Wc0 len0) kn1 → V l M_F_then (d + 4) 1 13300 62 [(0, .ref 0), (1, .int (nI m)), (4, .int (thI (cvc Wc0 len0) (W 0 (44 + a) + W 0 (44 + b)) dy (W 0 (8 + (a * 6 + b))) k)), (5, .int (nI (tN (W 0) (44 + a) + tN (W 0) (44 + b)))), (6, .int (nI k))] [] n1 (co R1 W Z T kn1 h0) (1 - bud len0 kn1) (13300 * (1 - bud len0 kn1)) Q) (m) ?_ (fun k hk hn => ?_) 0 (by omega) R kn n (fun _ _ => rfl) hT hK
      · skip
        intro R1 kn1 n1 hR1 hT1 hK1
        have hbl := bud_le (len := len0) (kn := kn1)
        refine V.iload d_F_then_62 rfl ?_
        refine V.iload_n d_F_then_64 rfl ?_
        refine V.geN (tgt := 109) d_F_then_65 (by decide) (by omega) (by omega) (fun c_65 => ?_) (fun c_65 => ?_)
        · skip
          refine V.iload d_F_then_109 rfl ?_
          refine V.iret d_F_then_111 rfl (by omega) (by omega) ?_
          exact hOk m a b hm ha hb hab rfl rfl rfl R1 kn1 n1 hR1 hT1 hK1
        · skip
          exact absurd c_65 (by omega)
      · skip
        intro R1 kn1 n1 hR1 hT1 hK1
        obtain ⟨q, hq, eq⟩ := hth k
        have hbl := bud_le (len := len0) (kn := kn1)
        have hC1 : ∀ k, k < len0 → R1 (4 + 6 * 0 + 1) k = nI (Wc0 k) := fun k hk => by rw [hR1 _ (by decide)]; exact hx0.2.2 k hk
        refine V.iload d_F_then_62 rfl ?_
        refine V.iload_n d_F_then_64 rfl ?_
        refine V.geN (tgt := 109) d_F_then_65 (by decide) (by omega) (by omega) (fun c_65 => ?_) (fun c_65 => ?_)
        · skip
          exact absurd c_65 (by omega)
        · skip
          refine V.iload d_F_then_68 rfl ?_
          refine V.top (y := nI q) (eq) ?_
          refine V.aload_n d_F_then_70 rfl ?_
          refine V.get d_F_then_71 f_F_25_F (co_s sc_ob) rfl ?_
          refine V.iload d_F_then_74 rfl ?_
          refine V.top (y := nI q) (eq) ?_
          refine V.iload d_F_then_76 rfl ?_
          refine V.aload_n d_F_then_78 rfl ?_
          refine V.get d_F_then_79 f_F_39_F (co_s sc_ob) rfl ?_
          refine V.get d_F_then_82 f_F_163_World (co_s (sc_wd (wb_ds 0 (by decide)).1)) rfl ?_
          refine V.top (y := nI dy) (hdy) ?_
          refine V.iload d_F_then_85 rfl ?_
          refine V.addN d_F_then_87 ?_
          refine V.bipush_ (nI 7) d_F_then_88 (by decide +kernel) ?_
          refine V.remN d_F_then_90 (by omega) (by omega) (by omega) ?_
          refine V.callV3 d_F_then_91 k_F_206_Text_cooling_TextV (co_s (sc_tx (tx_ds 0 (by decide)).1)) (Nat.le_of_ble_eq_true rfl) (by omega) (by omega) (c_Text_cooling (x := q) (y := tN (W 0) (44 + a) + tN (W 0) (44 + b)) (z := (dy + k) % 7) hx0.1 hx0.2.1 hC1 (by omega) (by omega) (by omega) hT1 hK1 (fun P kn2 n2 hT2 hK2 hb2 hn2 => ?_))
          refine V.iadd d_F_then_94 ?_
          refine V.iconst_ (nI 0) d_F_then_95 (by decide +kernel) ?_
          refine V.bipush_ (nI 99) d_F_then_96 (by decide +kernel) ?_
          refine V.callS3 d_F_then_98 k_F_209_F_clampS (Nat.le_of_ble_eq_true rfl) (by omega) (by omega) (c_F_clamp (by decide +kernel) ?_)
          refine V.istore d_F_then_101 (by decide) ?_
          refine V.incN d_F_then_103 rfl (by decide) ?_
          refine V.goto (tgt := 62) d_F_then_106 (by decide) ?_
          refine V.wd (c' := 1 - bud len0 kn2) (s' := 13300 * (1 - bud len0 kn2)) (by omega) (by omega) ?_
          have eN : hld (nI q + cvc Wc0 len0 (nI q) (nI (tN (W 0) (44 + a) + tN (W 0) (44 + b))) (nI ((dy + k) % 7))) (nI 0) (nI 99) = (thI (cvc Wc0 len0) (W 0 (44 + a) + W 0 (44 + b)) dy (W 0 (8 + (a * 6 + b))) (k + 1)) := by
            rw [← ey, ← eq]
            rfl
          rw [eN]
          exact V.lc rfl (hn (uA R1 8 P) kn2 n2 (fun q hq => by rw [uA_n hq]; exact hR1 q hq) hT2 hK2)
    · skip
      refine V.aload_n d_F_then_17 rfl ?_
      refine V.iconst_ (nI 1) d_F_then_18 (by decide +kernel) ?_
      refine V.callV1 d_F_then_19 k_F_97_F_error_FV (co_s sc_ob) (Nat.le_of_ble_eq_true rfl) (by omega) (by omega) (c_F_error (by decide) ?_)
      refine V.iret d_F_then_22 rfl (by omega) (by omega) ?_
      exact hE (by simp only [c_6, c_14, Bool.and_false, Bool.false_and, Bool.and_true, Bool.true_and])
abbrev M_F_voice : MD := (⟨"FelledByNames", "voice", "(III)I"⟩, prog_1_method_30_code, 5, (some .int), fun _ => True)
theorem d_F_voice_0 : decode prog_1_method_30_code 0 = .ok (.aload_n 0, 1) := by decide +kernel
theorem d_F_voice_1 : decode prog_1_method_30_code 1 = .ok (.iload_n 1, 1) := by decide +kernel
theorem d_F_voice_2 : decode prog_1_method_30_code 2 = .ok (.invokevirtual 152, 3) := by decide +kernel
theorem d_F_voice_5 : decode prog_1_method_30_code 5 = .ok (.ifCond .eq 11, 3) := by decide +kernel
theorem d_F_voice_16 : decode prog_1_method_30_code 16 = .ok (.aload_n 0, 1) := by decide +kernel
theorem d_F_voice_17 : decode prog_1_method_30_code 17 = .ok (.iconst 1, 1) := by decide +kernel
theorem d_F_voice_18 : decode prog_1_method_30_code 18 = .ok (.invokevirtual 97, 3) := by decide +kernel
theorem d_F_voice_21 : decode prog_1_method_30_code 21 = .ok (.ireturn, 1) := by decide +kernel
theorem d_F_voice_8 : decode prog_1_method_30_code 8 = .ok (.iload_n 2, 1) := by decide +kernel
theorem d_F_voice_9 : decode prog_1_method_30_code 9 = .ok (.iconst 3, 1) := by decide +kernel
theorem d_F_voice_10 : decode prog_1_method_30_code 10 = .ok (.invokestatic 94, 3) := by decide +kernel
theorem d_F_voice_13 : decode prog_1_method_30_code 13 = .ok (.ifCond .ne 9, 3) := by decide +kernel
theorem d_F_voice_22 : decode prog_1_method_30_code 22 = .ok (.aload_n 0, 1) := by decide +kernel
theorem d_F_voice_23 : decode prog_1_method_30_code 23 = .ok (.getfield 39, 3) := by decide +kernel
theorem d_F_voice_26 : decode prog_1_method_30_code 26 = .ok (.getfield 145, 3) := by decide +kernel
theorem d_F_voice_29 : decode prog_1_method_30_code 29 = .ok (.iload_n 1, 1) := by decide +kernel
theorem d_F_voice_30 : decode prog_1_method_30_code 30 = .ok (.aaload, 1) := by decide +kernel
theorem d_F_voice_31 : decode prog_1_method_30_code 31 = .ok (.astore 4, 2) := by decide +kernel
theorem d_F_voice_33 : decode prog_1_method_30_code 33 = .ok (.aload_n 0, 1) := by decide +kernel
theorem d_F_voice_34 : decode prog_1_method_30_code 34 = .ok (.getfield 49, 3) := by decide +kernel
theorem d_F_voice_37 : decode prog_1_method_30_code 37 = .ok (.invokevirtual 190, 3) := by decide +kernel
theorem d_F_voice_40 : decode prog_1_method_30_code 40 = .ok (.iload_n 2, 1) := by decide +kernel
theorem d_F_voice_41 : decode prog_1_method_30_code 41 = .ok (.tableswitch 60 0 2 #[27, 38, 49], 27) := by decide +kernel
theorem d_F_voice_68 : decode prog_1_method_30_code 68 = .ok (.aload 4, 2) := by decide +kernel
theorem d_F_voice_70 : decode prog_1_method_30_code 70 = .ok (.iload_n 3, 1) := by decide +kernel
theorem d_F_voice_71 : decode prog_1_method_30_code 71 = .ok (.aload_n 0, 1) := by decide +kernel
theorem d_F_voice_72 : decode prog_1_method_30_code 72 = .ok (.getfield 49, 3) := by decide +kernel
theorem d_F_voice_75 : decode prog_1_method_30_code 75 = .ok (.invokevirtual 270, 3) := by decide +kernel
theorem k_F_270_Tree_creaks_TreeU : kU "FelledByNames" 270 6 "FelledByNames$Tree" ⟨"FelledByNames$Tree", "creaks", "(ILFelledByNames$Row;)I"⟩ M_Tree_creaks 2 := ⟨kB_Tree_creaks, tm 890 (by decide +kernel) rfl, tm 893 (by decide +kernel) rfl, ⟨by decide, by decide⟩, tm 891 (by decide +kernel) rfl, ⟨prog_10_method_6_code, 3, (some .int), tm 904 (by decide +kernel) rfl⟩, by decide +kernel, tm 891 (by decide +kernel) rfl, _, rfl, tm 892 (by decide +kernel) rfl⟩
theorem k_F_270_Beech_creaks_BeechU : kU "FelledByNames" 270 7 "FelledByNames$Tree" ⟨"FelledByNames$Tree", "creaks", "(ILFelledByNames$Row;)I"⟩ M_Beech_creaks 2 := ⟨kB_Beech_creaks, tm 890 (by decide +kernel) rfl, tm 893 (by decide +kernel) rfl, ⟨by decide, by decide⟩, tm 891 (by decide +kernel) rfl, ⟨prog_10_method_6_code, 3, (some .int), tm 904 (by decide +kernel) rfl⟩, by decide +kernel, tm 895 (by decide +kernel) rfl, _, rfl, tm 894 (by decide +kernel) rfl⟩
theorem k_F_270_Tree_creaks_OakU : kU "FelledByNames" 270 8 "FelledByNames$Tree" ⟨"FelledByNames$Tree", "creaks", "(ILFelledByNames$Row;)I"⟩ M_Tree_creaks 2 := ⟨kB_Tree_creaks, tm 890 (by decide +kernel) rfl, tm 893 (by decide +kernel) rfl, ⟨by decide, by decide⟩, tm 891 (by decide +kernel) rfl, ⟨prog_10_method_6_code, 3, (some .int), tm 904 (by decide +kernel) rfl⟩, by decide +kernel, tm 891 (by decide +kernel) rfl, _, rfl, tm 901 (by decide +kernel) rfl⟩
theorem k_F_270_Tree_creaks_SaplingU : kU "FelledByNames" 270 9 "FelledByNames$Tree" ⟨"FelledByNames$Tree", "creaks", "(ILFelledByNames$Row;)I"⟩ M_Tree_creaks 2 := ⟨kB_Tree_creaks, tm 890 (by decide +kernel) rfl, tm 893 (by decide +kernel) rfl, ⟨by decide, by decide⟩, tm 891 (by decide +kernel) rfl, ⟨prog_10_method_6_code, 3, (some .int), tm 904 (by decide +kernel) rfl⟩, by decide +kernel, tm 891 (by decide +kernel) rfl, _, rfl, tm 902 (by decide +kernel) rfl⟩
theorem k_F_270_Beech_creaks_WedgedU : kU "FelledByNames" 270 10 "FelledByNames$Tree" ⟨"FelledByNames$Tree", "creaks", "(ILFelledByNames$Row;)I"⟩ M_Beech_creaks 2 := ⟨kB_Beech_creaks, tm 890 (by decide +kernel) rfl, tm 893 (by decide +kernel) rfl, ⟨by decide, by decide⟩, tm 891 (by decide +kernel) rfl, ⟨prog_10_method_6_code, 3, (some .int), tm 904 (by decide +kernel) rfl⟩, by decide +kernel, tm 895 (by decide +kernel) rfl, _, rfl, tm 903 (by decide +kernel) rfl⟩
theorem k_F_270_Tree_creaks_HollowU : kU "FelledByNames" 270 11 "FelledByNames$Tree" ⟨"FelledByNames$Tree", "creaks", "(ILFelledByNames$Row;)I"⟩ M_Tree_creaks 2 := ⟨kB_Tree_creaks, tm 890 (by decide +kernel) rfl, tm 893 (by decide +kernel) rfl, ⟨by decide, by decide⟩, tm 891 (by decide +kernel) rfl, ⟨prog_10_method_6_code, 3, (some .int), tm 904 (by decide +kernel) rfl⟩, by decide +kernel, tm 891 (by decide +kernel) rfl, _, rfl, tm 900 (by decide +kernel) rfl⟩
theorem k_F_270_Tree_creaks_HillU : kU "FelledByNames" 270 12 "FelledByNames$Tree" ⟨"FelledByNames$Tree", "creaks", "(ILFelledByNames$Row;)I"⟩ M_Tree_creaks 2 := ⟨kB_Tree_creaks, tm 890 (by decide +kernel) rfl, tm 893 (by decide +kernel) rfl, ⟨by decide, by decide⟩, tm 891 (by decide +kernel) rfl, ⟨prog_10_method_6_code, 3, (some .int), tm 904 (by decide +kernel) rfl⟩, by decide +kernel, tm 891 (by decide +kernel) rfl, _, rfl, tm 899 (by decide +kernel) rfl⟩
theorem vs_F_270 {l : Launch} {M : MD} {d mc ms pc : Nat} {ls : List (Nat × Value)} {st : List Value} {n c s w i : Nat} {R W Z : Nat → Nat → Int32} {T : Nat → Nat → Nat} {kn : Kn} {h0 : HP} {Q : QT} {x : Int32} {tm : Nat} (hd : decode M.2.1 pc = .ok (.invokevirtual 270, 3)) (hM0 : M.1.cls = "FelledByNames") (hT : TI T kn n) (hw : w < 3) (hi : i < 8) (hK : tN (W w) (50 + 7 * i + 0) ≤ 6) (et : Z 51 1 = nI tm) (hb : tm + 2 ≤ 40) (hs8 : (st.map fun v => v.category).sum ≤ 8) (hc0 : c ≤ mc) (hs0 : s ≤ ms) (kk : V l M (d + 3) mc ms (pc + 3) ls (.int (crv (tN (W w) (50 + 7 * i + 0)) (nI i) x) :: st) n (co (uA R 52 (wrt (R 52) tm (crl (tN (W w) (50 + 7 * i + 0))))) W (uZ Z 51 1 (nI (tm + (crl (tN (W w) (50 + 7 * i + 0))).length))) T kn h0) c s Q) : V l M (d + 3) mc ms pc ls (.ref 51 :: .int x :: .ref (T w i) :: st) n (co R W Z T kn h0) c s Q := by
  have hb0 := co_t (R := R) (W := W) (Z := Z) (h0 := h0) hT hw hi
  unfold trc at hb0
  have hK0 := hK
  generalize hk : (tN (W w) (50 + 7 * i + 0)) = k at hK hb0 kk
  rcases (show k = 0 ∨ k = 1 ∨ k = 2 ∨ k = 3 ∨ k = 4 ∨ k = 5 ∨ k = 6 by omega) with rfl | rfl | rfl | rfl | rfl | rfl | rfl
  · refine V.callU (M := M) (vs := [.int x, .ref 51]) (by exact hd) (by rw [hM0]; exact k_F_270_Tree_creaks_TreeU) hb0 rfl rfl hs8 (by omega) (by omega) (c_Tree_creaks (d := d + 1) hT hw hi hK0 et (by omega) ?_)
    first | exact kk | (rw [hk]; exact kk)
  · refine V.callU (M := M) (vs := [.int x, .ref 51]) (by exact hd) (by rw [hM0]; exact k_F_270_Beech_creaks_BeechU) hb0 rfl rfl hs8 (by omega) (by omega) (c_Beech_creaks (d := d + 0) hT hw hi hK0 et (by omega) ?_)
    first | exact kk | (rw [hk]; exact kk)
  · refine V.callU (M := M) (vs := [.int x, .ref 51]) (by exact hd) (by rw [hM0]; exact k_F_270_Tree_creaks_OakU) hb0 rfl rfl hs8 (by omega) (by omega) (c_Tree_creaks (d := d + 1) hT hw hi hK0 et (by omega) ?_)
    first | exact kk | (rw [hk]; exact kk)
  · refine V.callU (M := M) (vs := [.int x, .ref 51]) (by exact hd) (by rw [hM0]; exact k_F_270_Tree_creaks_SaplingU) hb0 rfl rfl hs8 (by omega) (by omega) (c_Tree_creaks (d := d + 1) hT hw hi hK0 et (by omega) ?_)
    first | exact kk | (rw [hk]; exact kk)
  · refine V.callU (M := M) (vs := [.int x, .ref 51]) (by exact hd) (by rw [hM0]; exact k_F_270_Beech_creaks_WedgedU) hb0 rfl rfl hs8 (by omega) (by omega) (c_Beech_creaks (d := d + 0) hT hw hi hK0 et (by omega) ?_)
    first | exact kk | (rw [hk]; exact kk)
  · refine V.callU (M := M) (vs := [.int x, .ref 51]) (by exact hd) (by rw [hM0]; exact k_F_270_Tree_creaks_HollowU) hb0 rfl rfl hs8 (by omega) (by omega) (c_Tree_creaks (d := d + 1) hT hw hi hK0 et (by omega) ?_)
    first | exact kk | (rw [hk]; exact kk)
  · refine V.callU (M := M) (vs := [.int x, .ref 51]) (by exact hd) (by rw [hM0]; exact k_F_270_Tree_creaks_HillU) hb0 rfl rfl hs8 (by omega) (by omega) (c_Tree_creaks (d := d + 1) hT hw hi hK0 et (by omega) ?_)
    first | exact kk | (rw [hk]; exact kk)
theorem d_F_voice_78 : decode prog_1_method_30_code 78 = .ok (.ireturn, 1) := by decide +kernel
theorem d_F_voice_79 : decode prog_1_method_30_code 79 = .ok (.aload 4, 2) := by decide +kernel
theorem d_F_voice_81 : decode prog_1_method_30_code 81 = .ok (.iload_n 3, 1) := by decide +kernel
theorem d_F_voice_82 : decode prog_1_method_30_code 82 = .ok (.aload_n 0, 1) := by decide +kernel
theorem d_F_voice_83 : decode prog_1_method_30_code 83 = .ok (.getfield 49, 3) := by decide +kernel
theorem d_F_voice_86 : decode prog_1_method_30_code 86 = .ok (.invokevirtual 274, 3) := by decide +kernel
theorem k_F_274_Tree_stands_TreeU : kU "FelledByNames" 274 6 "FelledByNames$Tree" ⟨"FelledByNames$Tree", "stands", "(ILFelledByNames$Row;)I"⟩ M_Tree_stands 2 := ⟨kB_Tree_stands, tm 906 (by decide +kernel) rfl, tm 909 (by decide +kernel) rfl, ⟨by decide, by decide⟩, tm 907 (by decide +kernel) rfl, ⟨prog_10_method_7_code, 3, (some .int), tm 931 (by decide +kernel) rfl⟩, by decide +kernel, tm 907 (by decide +kernel) rfl, _, rfl, tm 908 (by decide +kernel) rfl⟩
theorem k_F_274_Tree_stands_BeechU : kU "FelledByNames" 274 7 "FelledByNames$Tree" ⟨"FelledByNames$Tree", "stands", "(ILFelledByNames$Row;)I"⟩ M_Tree_stands 2 := ⟨kB_Tree_stands, tm 906 (by decide +kernel) rfl, tm 909 (by decide +kernel) rfl, ⟨by decide, by decide⟩, tm 907 (by decide +kernel) rfl, ⟨prog_10_method_7_code, 3, (some .int), tm 931 (by decide +kernel) rfl⟩, by decide +kernel, tm 907 (by decide +kernel) rfl, _, rfl, tm 910 (by decide +kernel) rfl⟩
theorem k_F_274_Oak_stands_OakU : kU "FelledByNames" 274 8 "FelledByNames$Tree" ⟨"FelledByNames$Tree", "stands", "(ILFelledByNames$Row;)I"⟩ M_Oak_stands 2 := ⟨kB_Oak_stands, tm 906 (by decide +kernel) rfl, tm 909 (by decide +kernel) rfl, ⟨by decide, by decide⟩, tm 907 (by decide +kernel) rfl, ⟨prog_10_method_7_code, 3, (some .int), tm 931 (by decide +kernel) rfl⟩, by decide +kernel, tm 917 (by decide +kernel) rfl, _, rfl, tm 928 (by decide +kernel) rfl⟩
theorem k_F_274_Tree_stands_SaplingU : kU "FelledByNames" 274 9 "FelledByNames$Tree" ⟨"FelledByNames$Tree", "stands", "(ILFelledByNames$Row;)I"⟩ M_Tree_stands 2 := ⟨kB_Tree_stands, tm 906 (by decide +kernel) rfl, tm 909 (by decide +kernel) rfl, ⟨by decide, by decide⟩, tm 907 (by decide +kernel) rfl, ⟨prog_10_method_7_code, 3, (some .int), tm 931 (by decide +kernel) rfl⟩, by decide +kernel, tm 907 (by decide +kernel) rfl, _, rfl, tm 929 (by decide +kernel) rfl⟩
theorem k_F_274_Tree_stands_WedgedU : kU "FelledByNames" 274 10 "FelledByNames$Tree" ⟨"FelledByNames$Tree", "stands", "(ILFelledByNames$Row;)I"⟩ M_Tree_stands 2 := ⟨kB_Tree_stands, tm 906 (by decide +kernel) rfl, tm 909 (by decide +kernel) rfl, ⟨by decide, by decide⟩, tm 907 (by decide +kernel) rfl, ⟨prog_10_method_7_code, 3, (some .int), tm 931 (by decide +kernel) rfl⟩, by decide +kernel, tm 907 (by decide +kernel) rfl, _, rfl, tm 930 (by decide +kernel) rfl⟩
theorem k_F_274_Hollow_stands_HollowU : kU "FelledByNames" 274 11 "FelledByNames$Tree" ⟨"FelledByNames$Tree", "stands", "(ILFelledByNames$Row;)I"⟩ M_Hollow_stands 2 := ⟨kB_Hollow_stands, tm 906 (by decide +kernel) rfl, tm 909 (by decide +kernel) rfl, ⟨by decide, by decide⟩, tm 907 (by decide +kernel) rfl, ⟨prog_10_method_7_code, 3, (some .int), tm 931 (by decide +kernel) rfl⟩, by decide +kernel, tm 913 (by decide +kernel) rfl, _, rfl, tm 912 (by decide +kernel) rfl⟩
theorem k_F_274_Tree_stands_HillU : kU "FelledByNames" 274 12 "FelledByNames$Tree" ⟨"FelledByNames$Tree", "stands", "(ILFelledByNames$Row;)I"⟩ M_Tree_stands 2 := ⟨kB_Tree_stands, tm 906 (by decide +kernel) rfl, tm 909 (by decide +kernel) rfl, ⟨by decide, by decide⟩, tm 907 (by decide +kernel) rfl, ⟨prog_10_method_7_code, 3, (some .int), tm 931 (by decide +kernel) rfl⟩, by decide +kernel, tm 907 (by decide +kernel) rfl, _, rfl, tm 911 (by decide +kernel) rfl⟩
theorem vs_F_274 {l : Launch} {M : MD} {d mc ms pc : Nat} {ls : List (Nat × Value)} {st : List Value} {n c s w i : Nat} {R W Z : Nat → Nat → Int32} {T : Nat → Nat → Nat} {kn : Kn} {h0 : HP} {Q : QT} {x : Int32} {tm : Nat} (hd : decode M.2.1 pc = .ok (.invokevirtual 274, 3)) (hM0 : M.1.cls = "FelledByNames") (hT : TI T kn n) (hw : w < 3) (hi : i < 8) (hK : tN (W w) (50 + 7 * i + 0) ≤ 6) (et : Z 51 1 = nI tm) (hb : tm + 8 ≤ 40) (hs8 : (st.map fun v => v.category).sum ≤ 8) (hc0 : c ≤ mc) (hs0 : s ≤ ms) (kk : V l M (d + 6) mc ms (pc + 3) ls (.int (stv (tN (W w) (50 + 7 * i + 0)) (W w (50 + 7 * i + 1)) (nI i) (tN (W w) (50 + 7 * i + 0)) x) :: st) n (co (uA R 52 (wrt (R 52) tm (stl (tN (W w) (50 + 7 * i + 0)) (tN (W w) (50 + 7 * i + 0))))) W (uZ Z 51 1 (nI (tm + (stl (tN (W w) (50 + 7 * i + 0)) (tN (W w) (50 + 7 * i + 0))).length))) T kn h0) c s Q) : V l M (d + 6) mc ms pc ls (.ref 51 :: .int x :: .ref (T w i) :: st) n (co R W Z T kn h0) c s Q := by
  have hb0 := co_t (R := R) (W := W) (Z := Z) (h0 := h0) hT hw hi
  unfold trc at hb0
  have hK0 := hK
  generalize hk : (tN (W w) (50 + 7 * i + 0)) = k at hK hb0 kk
  rcases (show k = 0 ∨ k = 1 ∨ k = 2 ∨ k = 3 ∨ k = 4 ∨ k = 5 ∨ k = 6 by omega) with rfl | rfl | rfl | rfl | rfl | rfl | rfl
  · refine V.callU (M := M) (vs := [.int x, .ref 51]) (by exact hd) (by rw [hM0]; exact k_F_274_Tree_stands_TreeU) hb0 rfl rfl hs8 (by omega) (by omega) (c_Tree_stands (d := d + 2) hT hw hi hK0 et (by omega) ?_)
    first | exact kk | (rw [hk]; exact kk)
  · refine V.callU (M := M) (vs := [.int x, .ref 51]) (by exact hd) (by rw [hM0]; exact k_F_274_Tree_stands_BeechU) hb0 rfl rfl hs8 (by omega) (by omega) (c_Tree_stands (d := d + 2) hT hw hi hK0 et (by omega) ?_)
    first | exact kk | (rw [hk]; exact kk)
  · refine V.callU (M := M) (vs := [.int x, .ref 51]) (by exact hd) (by rw [hM0]; exact k_F_274_Oak_stands_OakU) hb0 rfl rfl hs8 (by omega) (by omega) (c_Oak_stands (d := d + 1) hT hw hi hK0 (by omega) et (by omega) ?_)
    first | exact kk | (rw [hk]; exact kk)
  · refine V.callU (M := M) (vs := [.int x, .ref 51]) (by exact hd) (by rw [hM0]; exact k_F_274_Tree_stands_SaplingU) hb0 rfl rfl hs8 (by omega) (by omega) (c_Tree_stands (d := d + 2) hT hw hi hK0 et (by omega) ?_)
    first | exact kk | (rw [hk]; exact kk)
  · refine V.callU (M := M) (vs := [.int x, .ref 51]) (by exact hd) (by rw [hM0]; exact k_F_274_Tree_stands_WedgedU) hb0 rfl rfl hs8 (by omega) (by omega) (c_Tree_stands (d := d + 2) hT hw hi hK0 et (by omega) ?_)
    first | exact kk | (rw [hk]; exact kk)
  · refine V.callU (M := M) (vs := [.int x, .ref 51]) (by exact hd) (by rw [hM0]; exact k_F_274_Hollow_stands_HollowU) hb0 rfl rfl hs8 (by omega) (by omega) (c_Hollow_stands (d := d + 0) hT hw hi hK0 (by omega) et (by omega) ?_)
    first | exact kk | (rw [hk]; exact kk)
  · refine V.callU (M := M) (vs := [.int x, .ref 51]) (by exact hd) (by rw [hM0]; exact k_F_274_Tree_stands_HillU) hb0 rfl rfl hs8 (by omega) (by omega) (c_Tree_stands (d := d + 2) hT hw hi hK0 et (by omega) ?_)
    first | exact kk | (rw [hk]; exact kk)
theorem d_F_voice_89 : decode prog_1_method_30_code 89 = .ok (.ireturn, 1) := by decide +kernel
theorem d_F_voice_90 : decode prog_1_method_30_code 90 = .ok (.aload 4, 2) := by decide +kernel
theorem d_F_voice_92 : decode prog_1_method_30_code 92 = .ok (.iload_n 3, 1) := by decide +kernel
theorem d_F_voice_93 : decode prog_1_method_30_code 93 = .ok (.aload_n 0, 1) := by decide +kernel
theorem d_F_voice_94 : decode prog_1_method_30_code 94 = .ok (.getfield 49, 3) := by decide +kernel
theorem d_F_voice_97 : decode prog_1_method_30_code 97 = .ok (.invokevirtual 277, 3) := by decide +kernel
theorem k_F_277_Tree_leans_TreeU : kU "FelledByNames" 277 6 "FelledByNames$Tree" ⟨"FelledByNames$Tree", "leans", "(ILFelledByNames$Row;)I"⟩ M_Tree_leans 2 := ⟨kB_Tree_leans, tm 933 (by decide +kernel) rfl, tm 1504 (by decide +kernel) rfl, ⟨by decide, by decide⟩, tm 926 (by decide +kernel) rfl, ⟨prog_10_method_8_code, 3, (some .int), tm 927 (by decide +kernel) rfl⟩, by decide +kernel, tm 926 (by decide +kernel) rfl, _, rfl, tm 1511 (by decide +kernel) rfl⟩
theorem k_F_277_Tree_leans_BeechU : kU "FelledByNames" 277 7 "FelledByNames$Tree" ⟨"FelledByNames$Tree", "leans", "(ILFelledByNames$Row;)I"⟩ M_Tree_leans 2 := ⟨kB_Tree_leans, tm 933 (by decide +kernel) rfl, tm 1504 (by decide +kernel) rfl, ⟨by decide, by decide⟩, tm 926 (by decide +kernel) rfl, ⟨prog_10_method_8_code, 3, (some .int), tm 927 (by decide +kernel) rfl⟩, by decide +kernel, tm 926 (by decide +kernel) rfl, _, rfl, tm 1505 (by decide +kernel) rfl⟩
theorem k_F_277_Tree_leans_OakU : kU "FelledByNames" 277 8 "FelledByNames$Tree" ⟨"FelledByNames$Tree", "leans", "(ILFelledByNames$Row;)I"⟩ M_Tree_leans 2 := ⟨kB_Tree_leans, tm 933 (by decide +kernel) rfl, tm 1504 (by decide +kernel) rfl, ⟨by decide, by decide⟩, tm 926 (by decide +kernel) rfl, ⟨prog_10_method_8_code, 3, (some .int), tm 927 (by decide +kernel) rfl⟩, by decide +kernel, tm 926 (by decide +kernel) rfl, _, rfl, tm 1509 (by decide +kernel) rfl⟩
theorem k_F_277_Sapling_leans_SaplingU : kU "FelledByNames" 277 9 "FelledByNames$Tree" ⟨"FelledByNames$Tree", "leans", "(ILFelledByNames$Row;)I"⟩ M_Sapling_leans 2 := ⟨kB_Sapling_leans, tm 933 (by decide +kernel) rfl, tm 1504 (by decide +kernel) rfl, ⟨by decide, by decide⟩, tm 926 (by decide +kernel) rfl, ⟨prog_10_method_8_code, 3, (some .int), tm 927 (by decide +kernel) rfl⟩, by decide +kernel, tm 938 (by decide +kernel) rfl, _, rfl, tm 1510 (by decide +kernel) rfl⟩
theorem k_F_277_Tree_leans_WedgedU : kU "FelledByNames" 277 10 "FelledByNames$Tree" ⟨"FelledByNames$Tree", "leans", "(ILFelledByNames$Row;)I"⟩ M_Tree_leans 2 := ⟨kB_Tree_leans, tm 933 (by decide +kernel) rfl, tm 1504 (by decide +kernel) rfl, ⟨by decide, by decide⟩, tm 926 (by decide +kernel) rfl, ⟨prog_10_method_8_code, 3, (some .int), tm 927 (by decide +kernel) rfl⟩, by decide +kernel, tm 926 (by decide +kernel) rfl, _, rfl, tm 1512 (by decide +kernel) rfl⟩
theorem k_F_277_Tree_leans_HollowU : kU "FelledByNames" 277 11 "FelledByNames$Tree" ⟨"FelledByNames$Tree", "leans", "(ILFelledByNames$Row;)I"⟩ M_Tree_leans 2 := ⟨kB_Tree_leans, tm 933 (by decide +kernel) rfl, tm 1504 (by decide +kernel) rfl, ⟨by decide, by decide⟩, tm 926 (by decide +kernel) rfl, ⟨prog_10_method_8_code, 3, (some .int), tm 927 (by decide +kernel) rfl⟩, by decide +kernel, tm 926 (by decide +kernel) rfl, _, rfl, tm 1508 (by decide +kernel) rfl⟩
theorem k_F_277_Hill_leans_HillU : kU "FelledByNames" 277 12 "FelledByNames$Tree" ⟨"FelledByNames$Tree", "leans", "(ILFelledByNames$Row;)I"⟩ M_Hill_leans 2 := ⟨kB_Hill_leans, tm 933 (by decide +kernel) rfl, tm 1504 (by decide +kernel) rfl, ⟨by decide, by decide⟩, tm 926 (by decide +kernel) rfl, ⟨prog_10_method_8_code, 3, (some .int), tm 927 (by decide +kernel) rfl⟩, by decide +kernel, tm 934 (by decide +kernel) rfl, _, rfl, tm 1506 (by decide +kernel) rfl⟩
theorem vs_F_277 {l : Launch} {M : MD} {d mc ms pc : Nat} {ls : List (Nat × Value)} {st : List Value} {n c s w i : Nat} {R W Z : Nat → Nat → Int32} {T : Nat → Nat → Nat} {kn : Kn} {h0 : HP} {Q : QT} {x : Int32} {tm : Nat} (hd : decode M.2.1 pc = .ok (.invokevirtual 277, 3)) (hM0 : M.1.cls = "FelledByNames") (hT : TI T kn n) (hw : w < 3) (hi : i < 8) (hK : tN (W w) (50 + 7 * i + 0) ≤ 6) (et : Z 51 1 = nI tm) (hb : tm + 3 ≤ 40) (hs8 : (st.map fun v => v.category).sum ≤ 8) (hc0 : c ≤ mc) (hs0 : s ≤ ms) (kk : V l M (d + 4) mc ms (pc + 3) ls (.int (lnv (tN (W w) (50 + 7 * i + 0)) (W w (50 + 7 * i + 1)) (nI i) x) :: st) n (co (uA R 52 (wrt (R 52) tm (lnl (tN (W w) (50 + 7 * i + 0))))) W (uZ Z 51 1 (nI (tm + (lnl (tN (W w) (50 + 7 * i + 0))).length))) T kn h0) c s Q) : V l M (d + 4) mc ms pc ls (.ref 51 :: .int x :: .ref (T w i) :: st) n (co R W Z T kn h0) c s Q := by
  have hb0 := co_t (R := R) (W := W) (Z := Z) (h0 := h0) hT hw hi
  unfold trc at hb0
  have hK0 := hK
  generalize hk : (tN (W w) (50 + 7 * i + 0)) = k at hK hb0 kk
  rcases (show k = 0 ∨ k = 1 ∨ k = 2 ∨ k = 3 ∨ k = 4 ∨ k = 5 ∨ k = 6 by omega) with rfl | rfl | rfl | rfl | rfl | rfl | rfl
  · refine V.callU (M := M) (vs := [.int x, .ref 51]) (by exact hd) (by rw [hM0]; exact k_F_277_Tree_leans_TreeU) hb0 rfl rfl hs8 (by omega) (by omega) (c_Tree_leans (d := d + 2) hT hw hi hK0 et (by omega) ?_)
    first | exact kk | (rw [hk]; exact kk)
  · refine V.callU (M := M) (vs := [.int x, .ref 51]) (by exact hd) (by rw [hM0]; exact k_F_277_Tree_leans_BeechU) hb0 rfl rfl hs8 (by omega) (by omega) (c_Tree_leans (d := d + 2) hT hw hi hK0 et (by omega) ?_)
    first | exact kk | (rw [hk]; exact kk)
  · refine V.callU (M := M) (vs := [.int x, .ref 51]) (by exact hd) (by rw [hM0]; exact k_F_277_Tree_leans_OakU) hb0 rfl rfl hs8 (by omega) (by omega) (c_Tree_leans (d := d + 2) hT hw hi hK0 et (by omega) ?_)
    first | exact kk | (rw [hk]; exact kk)
  · refine V.callU (M := M) (vs := [.int x, .ref 51]) (by exact hd) (by rw [hM0]; exact k_F_277_Sapling_leans_SaplingU) hb0 rfl rfl hs8 (by omega) (by omega) (c_Sapling_leans (d := d + 1) hT hw hi hK0 et (by omega) ?_)
    first | exact kk | (rw [hk]; exact kk)
  · refine V.callU (M := M) (vs := [.int x, .ref 51]) (by exact hd) (by rw [hM0]; exact k_F_277_Tree_leans_WedgedU) hb0 rfl rfl hs8 (by omega) (by omega) (c_Tree_leans (d := d + 2) hT hw hi hK0 et (by omega) ?_)
    first | exact kk | (rw [hk]; exact kk)
  · refine V.callU (M := M) (vs := [.int x, .ref 51]) (by exact hd) (by rw [hM0]; exact k_F_277_Tree_leans_HollowU) hb0 rfl rfl hs8 (by omega) (by omega) (c_Tree_leans (d := d + 2) hT hw hi hK0 et (by omega) ?_)
    first | exact kk | (rw [hk]; exact kk)
  · refine V.callU (M := M) (vs := [.int x, .ref 51]) (by exact hd) (by rw [hM0]; exact k_F_277_Hill_leans_HillU) hb0 rfl rfl hs8 (by omega) (by omega) (c_Hill_leans (d := d + 0) hT hw hi hK0 et (by omega) ?_)
    first | exact kk | (rw [hk]; exact kk)
theorem d_F_voice_100 : decode prog_1_method_30_code 100 = .ok (.ireturn, 1) := by decide +kernel
theorem d_F_voice_101 : decode prog_1_method_30_code 101 = .ok (.aload 4, 2) := by decide +kernel
theorem d_F_voice_103 : decode prog_1_method_30_code 103 = .ok (.iload_n 3, 1) := by decide +kernel
theorem d_F_voice_104 : decode prog_1_method_30_code 104 = .ok (.aload_n 0, 1) := by decide +kernel
theorem d_F_voice_105 : decode prog_1_method_30_code 105 = .ok (.getfield 49, 3) := by decide +kernel
theorem d_F_voice_108 : decode prog_1_method_30_code 108 = .ok (.invokevirtual 280, 3) := by decide +kernel
theorem k_F_280_Tree_tells_TreeU : kU "FelledByNames" 280 6 "FelledByNames$Tree" ⟨"FelledByNames$Tree", "tells", "(ILFelledByNames$Row;)I"⟩ M_Tree_tells 2 := ⟨kB_Tree_tells, tm 942 (by decide +kernel) rfl, tm 945 (by decide +kernel) rfl, ⟨by decide, by decide⟩, tm 943 (by decide +kernel) rfl, ⟨prog_10_method_9_code, 3, (some .int), tm 970 (by decide +kernel) rfl⟩, by decide +kernel, tm 943 (by decide +kernel) rfl, _, rfl, tm 944 (by decide +kernel) rfl⟩
theorem k_F_280_Tree_tells_BeechU : kU "FelledByNames" 280 7 "FelledByNames$Tree" ⟨"FelledByNames$Tree", "tells", "(ILFelledByNames$Row;)I"⟩ M_Tree_tells 2 := ⟨kB_Tree_tells, tm 942 (by decide +kernel) rfl, tm 945 (by decide +kernel) rfl, ⟨by decide, by decide⟩, tm 943 (by decide +kernel) rfl, ⟨prog_10_method_9_code, 3, (some .int), tm 970 (by decide +kernel) rfl⟩, by decide +kernel, tm 943 (by decide +kernel) rfl, _, rfl, tm 946 (by decide +kernel) rfl⟩
theorem k_F_280_Tree_tells_OakU : kU "FelledByNames" 280 8 "FelledByNames$Tree" ⟨"FelledByNames$Tree", "tells", "(ILFelledByNames$Row;)I"⟩ M_Tree_tells 2 := ⟨kB_Tree_tells, tm 942 (by decide +kernel) rfl, tm 945 (by decide +kernel) rfl, ⟨by decide, by decide⟩, tm 943 (by decide +kernel) rfl, ⟨prog_10_method_9_code, 3, (some .int), tm 970 (by decide +kernel) rfl⟩, by decide +kernel, tm 943 (by decide +kernel) rfl, _, rfl, tm 958 (by decide +kernel) rfl⟩
theorem k_F_280_Tree_tells_SaplingU : kU "FelledByNames" 280 9 "FelledByNames$Tree" ⟨"FelledByNames$Tree", "tells", "(ILFelledByNames$Row;)I"⟩ M_Tree_tells 2 := ⟨kB_Tree_tells, tm 942 (by decide +kernel) rfl, tm 945 (by decide +kernel) rfl, ⟨by decide, by decide⟩, tm 943 (by decide +kernel) rfl, ⟨prog_10_method_9_code, 3, (some .int), tm 970 (by decide +kernel) rfl⟩, by decide +kernel, tm 943 (by decide +kernel) rfl, _, rfl, tm 959 (by decide +kernel) rfl⟩
theorem kB_Wedged_tells : kB M_Wedged_tells 2 := ⟨tm 19 (by decide +kernel) rfl, tm 962 (by decide +kernel) rfl, ⟨by decide, by decide, by decide +kernel⟩, by decide⟩
theorem k_F_280_Wedged_tells_WedgedU : kU "FelledByNames" 280 10 "FelledByNames$Tree" ⟨"FelledByNames$Tree", "tells", "(ILFelledByNames$Row;)I"⟩ M_Wedged_tells 2 := ⟨kB_Wedged_tells, tm 942 (by decide +kernel) rfl, tm 945 (by decide +kernel) rfl, ⟨by decide, by decide⟩, tm 943 (by decide +kernel) rfl, ⟨prog_10_method_9_code, 3, (some .int), tm 970 (by decide +kernel) rfl⟩, by decide +kernel, tm 961 (by decide +kernel) rfl, _, rfl, tm 960 (by decide +kernel) rfl⟩
theorem k_F_280_Tree_tells_HollowU : kU "FelledByNames" 280 11 "FelledByNames$Tree" ⟨"FelledByNames$Tree", "tells", "(ILFelledByNames$Row;)I"⟩ M_Tree_tells 2 := ⟨kB_Tree_tells, tm 942 (by decide +kernel) rfl, tm 945 (by decide +kernel) rfl, ⟨by decide, by decide⟩, tm 943 (by decide +kernel) rfl, ⟨prog_10_method_9_code, 3, (some .int), tm 970 (by decide +kernel) rfl⟩, by decide +kernel, tm 943 (by decide +kernel) rfl, _, rfl, tm 957 (by decide +kernel) rfl⟩
theorem kB_Hill_tells : kB M_Hill_tells 2 := ⟨tm 21 (by decide +kernel) rfl, tm 949 (by decide +kernel) rfl, ⟨by decide, by decide, by decide +kernel⟩, by decide⟩
theorem k_F_280_Hill_tells_HillU : kU "FelledByNames" 280 12 "FelledByNames$Tree" ⟨"FelledByNames$Tree", "tells", "(ILFelledByNames$Row;)I"⟩ M_Hill_tells 2 := ⟨kB_Hill_tells, tm 942 (by decide +kernel) rfl, tm 945 (by decide +kernel) rfl, ⟨by decide, by decide⟩, tm 943 (by decide +kernel) rfl, ⟨prog_10_method_9_code, 3, (some .int), tm 970 (by decide +kernel) rfl⟩, by decide +kernel, tm 948 (by decide +kernel) rfl, _, rfl, tm 947 (by decide +kernel) rfl⟩
theorem vs_F_280 {l : Launch} {M : MD} {d mc ms pc : Nat} {ls : List (Nat × Value)} {st : List Value} {n c s w i : Nat} {R W Z : Nat → Nat → Int32} {T : Nat → Nat → Nat} {kn : Kn} {h0 : HP} {Q : QT} {x : Int32} {tm : Nat} (hd : decode M.2.1 pc = .ok (.invokevirtual 280, 3)) (hM0 : M.1.cls = "FelledByNames") (hT : TI T kn n) (hw : w < 3) (hi : i < 8) (hK : tN (W w) (50 + 7 * i + 0) ≤ 6) (et : Z 51 1 = nI tm) (hb : tm + 21 ≤ 40) (hs8 : (st.map fun v => v.category).sum ≤ 8) (hc0 : c ≤ mc) (hs0 : s ≤ ms) (kk : V l M (d + 8) mc ms (pc + 3) ls (.int (tlv (tN (W w) (50 + 7 * i + 0)) (W w (50 + 7 * i + 1)) (nI i) (tN (W w) (50 + 7 * i + 0)) x) :: st) n (co (uA R 52 (wrt (R 52) tm (tll (tN (W w) (50 + 7 * i + 0)) (tN (W w) (50 + 7 * i + 0))))) W (uZ Z 51 1 (nI (tm + (tll (tN (W w) (50 + 7 * i + 0)) (tN (W w) (50 + 7 * i + 0))).length))) T kn h0) c s Q) : V l M (d + 8) mc ms pc ls (.ref 51 :: .int x :: .ref (T w i) :: st) n (co R W Z T kn h0) c s Q := by
  have hb0 := co_t (R := R) (W := W) (Z := Z) (h0 := h0) hT hw hi
  unfold trc at hb0
  have hK0 := hK
  generalize hk : (tN (W w) (50 + 7 * i + 0)) = k at hK hb0 kk
  rcases (show k = 0 ∨ k = 1 ∨ k = 2 ∨ k = 3 ∨ k = 4 ∨ k = 5 ∨ k = 6 by omega) with rfl | rfl | rfl | rfl | rfl | rfl | rfl
  · refine V.callU (M := M) (vs := [.int x, .ref 51]) (by exact hd) (by rw [hM0]; exact k_F_280_Tree_tells_TreeU) hb0 rfl rfl hs8 (by omega) (by omega) (c_Tree_tells (d := d + 1) hT hw hi hK0 et (by omega) ?_)
    first | exact kk | (rw [hk]; exact kk)
  · refine V.callU (M := M) (vs := [.int x, .ref 51]) (by exact hd) (by rw [hM0]; exact k_F_280_Tree_tells_BeechU) hb0 rfl rfl hs8 (by omega) (by omega) (c_Tree_tells (d := d + 1) hT hw hi hK0 et (by omega) ?_)
    first | exact kk | (rw [hk]; exact kk)
  · refine V.callU (M := M) (vs := [.int x, .ref 51]) (by exact hd) (by rw [hM0]; exact k_F_280_Tree_tells_OakU) hb0 rfl rfl hs8 (by omega) (by omega) (c_Tree_tells (d := d + 1) hT hw hi hK0 et (by omega) ?_)
    first | exact kk | (rw [hk]; exact kk)
  · refine V.callU (M := M) (vs := [.int x, .ref 51]) (by exact hd) (by rw [hM0]; exact k_F_280_Tree_tells_SaplingU) hb0 rfl rfl hs8 (by omega) (by omega) (c_Tree_tells (d := d + 1) hT hw hi hK0 et (by omega) ?_)
    first | exact kk | (rw [hk]; exact kk)
  · refine V.callU (M := M) (vs := [.int x, .ref 51]) (by exact hd) (by rw [hM0]; exact k_F_280_Wedged_tells_WedgedU) hb0 rfl rfl hs8 (by omega) (by omega) (c_Wedged_tells (d := d + 0) hT hw hi hK0 (by omega) et (by omega) ?_)
    first | exact kk | (rw [hk]; exact kk)
  · refine V.callU (M := M) (vs := [.int x, .ref 51]) (by exact hd) (by rw [hM0]; exact k_F_280_Tree_tells_HollowU) hb0 rfl rfl hs8 (by omega) (by omega) (c_Tree_tells (d := d + 1) hT hw hi hK0 et (by omega) ?_)
    first | exact kk | (rw [hk]; exact kk)
  · refine V.callU (M := M) (vs := [.int x, .ref 51]) (by exact hd) (by rw [hM0]; exact k_F_280_Hill_tells_HillU) hb0 rfl rfl hs8 (by omega) (by omega) (c_Hill_tells (d := d + 0) hT hw hi hK0 (by omega) et (by omega) ?_)
    first | exact kk | (rw [hk]; exact kk)
theorem d_F_voice_111 : decode prog_1_method_30_code 111 = .ok (.ireturn, 1) := by decide +kernel
set_option maxRecDepth 100000 in
theorem c_F_voice {N : Nat} {x y z : Int32} {l : Launch} {d n : Nat} {R W Z : Nat → Nat → Int32} {T : Nat → Nat → Nat} {kn : Kn} {h0 : HP} {Q : QT} (hN : N ≤ 8) (e0 : W 0 0 = nI N) (hT : TI T kn n) (hB0 : WB (W 0)) (hE : (wi x (nI 0) (nI N - nI 1) && wi y (nI 0) (nI 3)) = false → Q (some (.int (-1000000000 - nI 1))) n (co (uA R 54 (upd (R 54) 1 (R 54 1 + nI 1))) W Z T kn h0)) (hOk : ∀ i a k0, i < N → a ≤ 3 → x = nI i → y = nI a → k0 ≤ 6 → W 0 (50 + 7 * i + 0) = nI k0 → Q (some (.int (vcv a k0 (W 0 (50 + 7 * i + 1)) (nI i) z))) n (co (uA R 52 (wrt (R 52) 0 (vcl a k0))) W (uZ (uZ Z 51 1 (nI 0)) 51 1 (nI (0 + (vcl a k0).length))) T kn h0)) : Ct l M_F_voice (d + 8) 0 0 [.ref 0, .int x, .int y, .int z] n (co R W Z T kn h0) Q := by
  refine Ct.of (fun _ => trivial) (by decide) (Nat.le_of_ble_eq_true rfl) ?_
  refine V.aload_n d_F_voice_0 rfl ?_
  refine V.iload_n d_F_voice_1 rfl ?_
  refine V.callV1 d_F_voice_2 k_F_152_F_isTree_FV (co_s sc_ob) (Nat.le_of_ble_eq_true rfl) (by omega) (by omega) (c_F_isTree ?_)
  refine V.ifeqB (tgt := 16) d_F_voice_5 (by decide) (fun c_5 => ?_) (fun c_5 => ?_)
  · skip
    refine V.aload_n d_F_voice_16 rfl ?_
    refine V.iconst_ (nI 1) d_F_voice_17 (by decide +kernel) ?_
    refine V.callV1 d_F_voice_18 k_F_97_F_error_FV (co_s sc_ob) (Nat.le_of_ble_eq_true rfl) (by omega) (by omega) (c_F_error (by decide) ?_)
    refine V.iret d_F_voice_21 rfl (by omega) (by omega) ?_
    rw [e0] at c_5
    exact hE (by simp only [c_5, Bool.and_false, Bool.false_and, Bool.and_true, Bool.true_and])
  · skip
    refine V.iload_n d_F_voice_8 rfl ?_
    refine V.iconst_ (nI 3) d_F_voice_9 (by decide +kernel) ?_
    refine V.callS2 d_F_voice_10 k_F_94_F_withinS (Nat.le_of_ble_eq_true rfl) (by omega) (by omega) (c_F_within ?_)
    refine V.ifneB (tgt := 22) d_F_voice_13 (by decide) (fun c_13 => ?_) (fun c_13 => ?_)
    · skip
      rw [e0] at c_5
      obtain ⟨i, hi, rfl⟩ := tre_nat hN c_5
      have hi8 : i < 8 := by omega
      obtain ⟨a, ha, rfl⟩ := wi_nat (k := 3) (by decide) c_13
      obtain ⟨ek, bk⟩ := (hB0.k0 hi8).t (by decide)
      refine V.aload_n d_F_voice_22 rfl ?_
      refine V.get d_F_voice_23 f_F_39_F (co_s sc_ob) rfl ?_
      refine V.get d_F_voice_26 f_F_145_World (co_s (sc_wd (wb_ds 0 (by decide)).1)) rfl ?_
      refine V.iload_n d_F_voice_29 rfl ?_
      refine V.aald d_F_voice_30 (Or.inl rfl) (co_s (sc_tr (wb_ds 0 (by decide)).2.2.2.1)) (vp_in_nI (by omega) (by omega)) (by rw [icl (by omega)]; exact if_pos (by omega)) ?_
      refine V.astore d_F_voice_31 (by decide) ?_
      refine V.aload_n d_F_voice_33 rfl ?_
      refine V.get d_F_voice_34 f_F_49_F (co_s sc_ob) rfl ?_
      refine V.callV0 d_F_voice_37 k_F_190_Row_clear_RowV (co_s (sc_rw rfl)) (Nat.le_of_ble_eq_true rfl) (by omega) (by omega) (c_Row_clear rfl ?_)
      refine V.iload_n d_F_voice_40 rfl ?_
      rcases (show a = 0 ∨ a = 1 ∨ a = 2 ∨ a = 3 by omega) with rfl | rfl | rfl | rfl
      · skip
        refine V.tabIn (tgt := 68) (off := 27) d_F_voice_41 (by decide +kernel) (by decide +kernel) (by decide +kernel) (by decide) ?_
        refine V.aload d_F_voice_68 rfl ?_
        refine V.iload_n d_F_voice_70 rfl ?_
        refine V.aload_n d_F_voice_71 rfl ?_
        refine V.get d_F_voice_72 f_F_49_F (co_s sc_ob) rfl ?_
        refine vs_F_270 d_F_voice_75 rfl hT (w := 0) (by decide) hi8 (hB0.kd hi8) (tm := 0) uZ_s (by omega) (Nat.le_of_ble_eq_true rfl) (by omega) (by omega) ?_
        refine V.iret d_F_voice_78 rfl (by omega) (by omega) ?_
        exact hOk i 0 _ hi ha rfl rfl bk ek
      · skip
        refine V.tabIn (tgt := 79) (off := 38) d_F_voice_41 (by decide +kernel) (by decide +kernel) (by decide +kernel) (by decide) ?_
        refine V.aload d_F_voice_79 rfl ?_
        refine V.iload_n d_F_voice_81 rfl ?_
        refine V.aload_n d_F_voice_82 rfl ?_
        refine V.get d_F_voice_83 f_F_49_F (co_s sc_ob) rfl ?_
        refine vs_F_274 d_F_voice_86 rfl hT (w := 0) (by decide) hi8 (hB0.kd hi8) (tm := 0) uZ_s (by omega) (Nat.le_of_ble_eq_true rfl) (by omega) (by omega) ?_
        refine V.iret d_F_voice_89 rfl (by omega) (by omega) ?_
        exact hOk i 1 _ hi ha rfl rfl bk ek
      · skip
        refine V.tabIn (tgt := 90) (off := 49) d_F_voice_41 (by decide +kernel) (by decide +kernel) (by decide +kernel) (by decide) ?_
        refine V.aload d_F_voice_90 rfl ?_
        refine V.iload_n d_F_voice_92 rfl ?_
        refine V.aload_n d_F_voice_93 rfl ?_
        refine V.get d_F_voice_94 f_F_49_F (co_s sc_ob) rfl ?_
        refine vs_F_277 d_F_voice_97 rfl hT (w := 0) (by decide) hi8 (hB0.kd hi8) (tm := 0) uZ_s (by omega) (Nat.le_of_ble_eq_true rfl) (by omega) (by omega) ?_
        refine V.iret d_F_voice_100 rfl (by omega) (by omega) ?_
        exact hOk i 2 _ hi ha rfl rfl bk ek
      · skip
        refine V.tabOut (tgt := 101) d_F_voice_41 (by decide +kernel) (by decide) ?_
        refine V.aload d_F_voice_101 rfl ?_
        refine V.iload_n d_F_voice_103 rfl ?_
        refine V.aload_n d_F_voice_104 rfl ?_
        refine V.get d_F_voice_105 f_F_49_F (co_s sc_ob) rfl ?_
        refine vs_F_280 d_F_voice_108 rfl hT (w := 0) (by decide) hi8 (hB0.kd hi8) (tm := 0) uZ_s (by omega) (Nat.le_of_ble_eq_true rfl) (by omega) (by omega) ?_
        refine V.iret d_F_voice_111 rfl (by omega) (by omega) ?_
        exact hOk i 3 _ hi ha rfl rfl bk ek
    · skip
      refine V.aload_n d_F_voice_16 rfl ?_
      refine V.iconst_ (nI 1) d_F_voice_17 (by decide +kernel) ?_
      refine V.callV1 d_F_voice_18 k_F_97_F_error_FV (co_s sc_ob) (Nat.le_of_ble_eq_true rfl) (by omega) (by omega) (c_F_error (by decide) ?_)
      refine V.iret d_F_voice_21 rfl (by omega) (by omega) ?_
      rw [e0] at c_5
      exact hE (by simp only [c_5, c_13, Bool.and_false, Bool.false_and, Bool.and_true, Bool.true_and])
def cnC (W Z : Nat → Nat → Int32) (N w : Nat) : Int32 := if w < 5 then W 0 w else if w = 5 then stS (W 0) true N else if w = 6 then smh (W 0) 36 else if w = 7 then Z 1 1 else if w = 8 then Z 49 1 else if w = 9 then Z 51 1 else W 0 5
abbrev M_F_count : MD := (⟨"FelledByNames", "count", "(I)I"⟩, prog_1_method_41_code, 2, (some .int), fun _ => True)
theorem d_F_count_0 : decode prog_1_method_41_code 0 = .ok (.iload_n 1, 1) := by decide +kernel
theorem d_F_count_1 : decode prog_1_method_41_code 1 = .ok (.tableswitch 148 0 10 #[59, 67, 75, 83, 91, 99, 108, 116, 124, 132, 140], 59) := by decide +kernel
theorem d_F_count_60 : decode prog_1_method_41_code 60 = .ok (.aload_n 0, 1) := by decide +kernel
theorem d_F_count_61 : decode prog_1_method_41_code 61 = .ok (.getfield 39, 3) := by decide +kernel
theorem d_F_count_64 : decode prog_1_method_41_code 64 = .ok (.getfield 121, 3) := by decide +kernel
theorem d_F_count_67 : decode prog_1_method_41_code 67 = .ok (.ireturn, 1) := by decide +kernel
theorem d_F_count_68 : decode prog_1_method_41_code 68 = .ok (.aload_n 0, 1) := by decide +kernel
theorem d_F_count_69 : decode prog_1_method_41_code 69 = .ok (.getfield 39, 3) := by decide +kernel
theorem d_F_count_72 : decode prog_1_method_41_code 72 = .ok (.getfield 163, 3) := by decide +kernel
theorem d_F_count_75 : decode prog_1_method_41_code 75 = .ok (.ireturn, 1) := by decide +kernel
theorem d_F_count_76 : decode prog_1_method_41_code 76 = .ok (.aload_n 0, 1) := by decide +kernel
theorem d_F_count_77 : decode prog_1_method_41_code 77 = .ok (.getfield 39, 3) := by decide +kernel
theorem d_F_count_80 : decode prog_1_method_41_code 80 = .ok (.getfield 111, 3) := by decide +kernel
theorem d_F_count_83 : decode prog_1_method_41_code 83 = .ok (.ireturn, 1) := by decide +kernel
theorem d_F_count_84 : decode prog_1_method_41_code 84 = .ok (.aload_n 0, 1) := by decide +kernel
theorem d_F_count_85 : decode prog_1_method_41_code 85 = .ok (.getfield 39, 3) := by decide +kernel
theorem d_F_count_88 : decode prog_1_method_41_code 88 = .ok (.getfield 114, 3) := by decide +kernel
theorem d_F_count_91 : decode prog_1_method_41_code 91 = .ok (.ireturn, 1) := by decide +kernel
theorem d_F_count_92 : decode prog_1_method_41_code 92 = .ok (.aload_n 0, 1) := by decide +kernel
theorem d_F_count_93 : decode prog_1_method_41_code 93 = .ok (.getfield 39, 3) := by decide +kernel
theorem d_F_count_96 : decode prog_1_method_41_code 96 = .ok (.getfield 118, 3) := by decide +kernel
theorem d_F_count_99 : decode prog_1_method_41_code 99 = .ok (.ireturn, 1) := by decide +kernel
theorem d_F_count_100 : decode prog_1_method_41_code 100 = .ok (.aload_n 0, 1) := by decide +kernel
theorem d_F_count_101 : decode prog_1_method_41_code 101 = .ok (.getfield 39, 3) := by decide +kernel
theorem d_F_count_104 : decode prog_1_method_41_code 104 = .ok (.iconst 1, 1) := by decide +kernel
theorem d_F_count_105 : decode prog_1_method_41_code 105 = .ok (.invokevirtual 220, 3) := by decide +kernel
theorem k_F_220_World_setOfTrees_WorldV : kV "FelledByNames" 220 4 M_World_setOfTrees 1 := ⟨kB_World_setOfTrees, tm 806 (by decide +kernel) rfl, tm 798 (by decide +kernel) rfl, tm 799 (by decide +kernel) rfl, _, rfl, rfl⟩
theorem d_F_count_108 : decode prog_1_method_41_code 108 = .ok (.ireturn, 1) := by decide +kernel
theorem d_F_count_109 : decode prog_1_method_41_code 109 = .ok (.aload_n 0, 1) := by decide +kernel
theorem d_F_count_110 : decode prog_1_method_41_code 110 = .ok (.getfield 39, 3) := by decide +kernel
theorem d_F_count_113 : decode prog_1_method_41_code 113 = .ok (.invokevirtual 319, 3) := by decide +kernel
theorem kB_World_sumOfHolds : kB M_World_sumOfHolds 0 := ⟨tm 5 (by decide +kernel) rfl, tm 1048 (by decide +kernel) rfl, ⟨by decide, by decide, by decide +kernel⟩, by decide⟩
theorem k_F_319_World_sumOfHolds_WorldV : kV "FelledByNames" 319 4 M_World_sumOfHolds 0 := ⟨kB_World_sumOfHolds, tm 1045 (by decide +kernel) rfl, tm 1046 (by decide +kernel) rfl, tm 1047 (by decide +kernel) rfl, _, rfl, rfl⟩
theorem d_F_count_116 : decode prog_1_method_41_code 116 = .ok (.ireturn, 1) := by decide +kernel
theorem d_F_count_117 : decode prog_1_method_41_code 117 = .ok (.aload_n 0, 1) := by decide +kernel
theorem d_F_count_118 : decode prog_1_method_41_code 118 = .ok (.getfield 14, 3) := by decide +kernel
theorem d_F_count_121 : decode prog_1_method_41_code 121 = .ok (.getfield 181, 3) := by decide +kernel
theorem d_F_count_124 : decode prog_1_method_41_code 124 = .ok (.ireturn, 1) := by decide +kernel
theorem d_F_count_125 : decode prog_1_method_41_code 125 = .ok (.aload_n 0, 1) := by decide +kernel
theorem d_F_count_126 : decode prog_1_method_41_code 126 = .ok (.getfield 46, 3) := by decide +kernel
theorem d_F_count_129 : decode prog_1_method_41_code 129 = .ok (.getfield 181, 3) := by decide +kernel
theorem d_F_count_132 : decode prog_1_method_41_code 132 = .ok (.ireturn, 1) := by decide +kernel
theorem d_F_count_133 : decode prog_1_method_41_code 133 = .ok (.aload_n 0, 1) := by decide +kernel
theorem d_F_count_134 : decode prog_1_method_41_code 134 = .ok (.getfield 49, 3) := by decide +kernel
theorem d_F_count_137 : decode prog_1_method_41_code 137 = .ok (.getfield 181, 3) := by decide +kernel
theorem d_F_count_140 : decode prog_1_method_41_code 140 = .ok (.ireturn, 1) := by decide +kernel
theorem d_F_count_141 : decode prog_1_method_41_code 141 = .ok (.aload_n 0, 1) := by decide +kernel
theorem d_F_count_142 : decode prog_1_method_41_code 142 = .ok (.getfield 39, 3) := by decide +kernel
theorem d_F_count_145 : decode prog_1_method_41_code 145 = .ok (.getfield 267, 3) := by decide +kernel
theorem d_F_count_148 : decode prog_1_method_41_code 148 = .ok (.ireturn, 1) := by decide +kernel
theorem d_F_count_149 : decode prog_1_method_41_code 149 = .ok (.aload_n 0, 1) := by decide +kernel
theorem d_F_count_150 : decode prog_1_method_41_code 150 = .ok (.iconst 1, 1) := by decide +kernel
theorem d_F_count_151 : decode prog_1_method_41_code 151 = .ok (.invokevirtual 97, 3) := by decide +kernel
theorem d_F_count_154 : decode prog_1_method_41_code 154 = .ok (.ireturn, 1) := by decide +kernel
set_option maxRecDepth 100000 in
theorem c_F_count {N : Nat} {x : Int32} {l : Launch} {d n : Nat} {R W Z : Nat → Nat → Int32} {T : Nat → Nat → Nat} {kn : Kn} {h0 : HP} {Q : QT} (hN : N ≤ 8) (e0 : W 0 0 = nI N) (hT : TI T kn n) (hB0 : WB (W 0)) (hE : wi x (nI 0) (nI 10) = false → Q (some (.int (-1000000000 - nI 1))) n (co (uA R 54 (upd (R 54) 1 (R 54 1 + nI 1))) W Z T kn h0)) (hOk : ∀ w, w ≤ 10 → x = nI w → Q (some (.int (cnC W Z N w))) n (co R W Z T kn h0)) : Ct l M_F_count (d + 2) 0 0 [.ref 0, .int x] n (co R W Z T kn h0) Q := by
  refine Ct.of (fun _ => trivial) (by decide) (Nat.le_of_ble_eq_true rfl) ?_
  refine V.iload_n d_F_count_0 rfl ?_
  by_cases hy : wi x (nI 0) (nI 10) = true
  · skip
    obtain ⟨w, hw7, rfl⟩ := wi_nat (k := 10) (by decide) hy
    rcases (show w = 0 ∨ w = 1 ∨ w = 2 ∨ w = 3 ∨ w = 4 ∨ w = 5 ∨ w = 6 ∨ w = 7 ∨ w = 8 ∨ w = 9 ∨ w = 10 by omega) with rfl | rfl | rfl | rfl | rfl | rfl | rfl | rfl | rfl | rfl | rfl
    · skip
      refine V.tabIn (tgt := 60) (off := 59) d_F_count_1 (by decide +kernel) (by decide +kernel) (by decide +kernel) (by decide) ?_
      refine V.aload_n d_F_count_60 rfl ?_
      refine V.get d_F_count_61 f_F_39_F (co_s sc_ob) rfl ?_
      refine V.get d_F_count_64 f_F_121_World (co_s (sc_wd (wb_ds 0 (by decide)).1)) rfl ?_
      refine V.iret d_F_count_67 rfl (by omega) (by omega) ?_
      exact hOk 0 hw7 rfl
    · skip
      refine V.tabIn (tgt := 68) (off := 67) d_F_count_1 (by decide +kernel) (by decide +kernel) (by decide +kernel) (by decide) ?_
      refine V.aload_n d_F_count_68 rfl ?_
      refine V.get d_F_count_69 f_F_39_F (co_s sc_ob) rfl ?_
      refine V.get d_F_count_72 f_F_163_World (co_s (sc_wd (wb_ds 0 (by decide)).1)) rfl ?_
      refine V.iret d_F_count_75 rfl (by omega) (by omega) ?_
      exact hOk 1 hw7 rfl
    · skip
      refine V.tabIn (tgt := 76) (off := 75) d_F_count_1 (by decide +kernel) (by decide +kernel) (by decide +kernel) (by decide) ?_
      refine V.aload_n d_F_count_76 rfl ?_
      refine V.get d_F_count_77 f_F_39_F (co_s sc_ob) rfl ?_
      refine V.get d_F_count_80 f_F_111_World (co_s (sc_wd (wb_ds 0 (by decide)).1)) rfl ?_
      refine V.iret d_F_count_83 rfl (by omega) (by omega) ?_
      exact hOk 2 hw7 rfl
    · skip
      refine V.tabIn (tgt := 84) (off := 83) d_F_count_1 (by decide +kernel) (by decide +kernel) (by decide +kernel) (by decide) ?_
      refine V.aload_n d_F_count_84 rfl ?_
      refine V.get d_F_count_85 f_F_39_F (co_s sc_ob) rfl ?_
      refine V.get d_F_count_88 f_F_114_World (co_s (sc_wd (wb_ds 0 (by decide)).1)) rfl ?_
      refine V.iret d_F_count_91 rfl (by omega) (by omega) ?_
      exact hOk 3 hw7 rfl
    · skip
      refine V.tabIn (tgt := 92) (off := 91) d_F_count_1 (by decide +kernel) (by decide +kernel) (by decide +kernel) (by decide) ?_
      refine V.aload_n d_F_count_92 rfl ?_
      refine V.get d_F_count_93 f_F_39_F (co_s sc_ob) rfl ?_
      refine V.get d_F_count_96 f_F_118_World (co_s (sc_wd (wb_ds 0 (by decide)).1)) rfl ?_
      refine V.iret d_F_count_99 rfl (by omega) (by omega) ?_
      exact hOk 4 hw7 rfl
    · skip
      refine V.tabIn (tgt := 100) (off := 99) d_F_count_1 (by decide +kernel) (by decide +kernel) (by decide +kernel) (by decide) ?_
      refine V.aload_n d_F_count_100 rfl ?_
      refine V.get d_F_count_101 f_F_39_F (co_s sc_ob) rfl ?_
      refine V.iconst_ (nI 1) d_F_count_104 (by decide +kernel) ?_
      refine V.callV1 d_F_count_105 k_F_220_World_setOfTrees_WorldV (co_s (sc_wd (wb_ds 0 (by decide)).1)) (Nat.le_of_ble_eq_true rfl) (by omega) (by omega) (c_World_setOfTrees (w := 0) (b := true) (by decide) hT hB0 hN e0 ?_)
      refine V.iret d_F_count_108 rfl (by omega) (by omega) ?_
      exact hOk 5 hw7 rfl
    · skip
      refine V.tabIn (tgt := 109) (off := 108) d_F_count_1 (by decide +kernel) (by decide +kernel) (by decide +kernel) (by decide) ?_
      refine V.aload_n d_F_count_109 rfl ?_
      refine V.get d_F_count_110 f_F_39_F (co_s sc_ob) rfl ?_
      refine V.callV0 d_F_count_113 k_F_319_World_sumOfHolds_WorldV (co_s (sc_wd (wb_ds 0 (by decide)).1)) (Nat.le_of_ble_eq_true rfl) (by omega) (by omega) (c_World_sumOfHolds (w := 0) (by decide) ?_)
      refine V.iret d_F_count_116 rfl (by omega) (by omega) ?_
      exact hOk 6 hw7 rfl
    · skip
      refine V.tabIn (tgt := 117) (off := 116) d_F_count_1 (by decide +kernel) (by decide +kernel) (by decide +kernel) (by decide) ?_
      refine V.aload_n d_F_count_117 rfl ?_
      refine V.get d_F_count_118 f_F_14_F (co_s sc_ob) rfl ?_
      refine V.get d_F_count_121 f_F_181_Row (co_s (sc_rw rfl)) rfl ?_
      refine V.iret d_F_count_124 rfl (by omega) (by omega) ?_
      exact hOk 7 hw7 rfl
    · skip
      refine V.tabIn (tgt := 125) (off := 124) d_F_count_1 (by decide +kernel) (by decide +kernel) (by decide +kernel) (by decide) ?_
      refine V.aload_n d_F_count_125 rfl ?_
      refine V.get d_F_count_126 f_F_46_F (co_s sc_ob) rfl ?_
      refine V.get d_F_count_129 f_F_181_Row (co_s (sc_rw rfl)) rfl ?_
      refine V.iret d_F_count_132 rfl (by omega) (by omega) ?_
      exact hOk 8 hw7 rfl
    · skip
      refine V.tabIn (tgt := 133) (off := 132) d_F_count_1 (by decide +kernel) (by decide +kernel) (by decide +kernel) (by decide) ?_
      refine V.aload_n d_F_count_133 rfl ?_
      refine V.get d_F_count_134 f_F_49_F (co_s sc_ob) rfl ?_
      refine V.get d_F_count_137 f_F_181_Row (co_s (sc_rw rfl)) rfl ?_
      refine V.iret d_F_count_140 rfl (by omega) (by omega) ?_
      exact hOk 9 hw7 rfl
    · skip
      refine V.tabIn (tgt := 141) (off := 140) d_F_count_1 (by decide +kernel) (by decide +kernel) (by decide +kernel) (by decide) ?_
      refine V.aload_n d_F_count_141 rfl ?_
      refine V.get d_F_count_142 f_F_39_F (co_s sc_ob) rfl ?_
      refine V.get d_F_count_145 f_F_267_World (co_s (sc_wd (wb_ds 0 (by decide)).1)) rfl ?_
      refine V.iret d_F_count_148 rfl (by omega) (by omega) ?_
      exact hOk 10 hw7 rfl
  · skip
    refine V.tabOut (tgt := 149) d_F_count_1 (wi_out (k := 10) (by decide) (Bool.eq_false_iff.mpr hy)) (by decide) ?_
    refine V.aload_n d_F_count_149 rfl ?_
    refine V.iconst_ (nI 1) d_F_count_150 (by decide +kernel) ?_
    refine V.callV1 d_F_count_151 k_F_97_F_error_FV (co_s sc_ob) (Nat.le_of_ble_eq_true rfl) (by omega) (by omega) (c_F_error (by decide) ?_)
    refine V.iret d_F_count_154 rfl (by omega) (by omega) ?_
    exact hE (Bool.eq_false_iff.mpr hy)
