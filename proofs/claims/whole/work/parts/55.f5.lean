abbrev M_Sheet_lowestBits : MD := (⟨"FelledByNames$Sheet", "lowestBits", "(I)I"⟩, prog_8_method_4_code, 2, (some .int), fun _ => True)
theorem d_Sheet_lowestBits_0 : decode prog_8_method_4_code 0 = .ok (.aload_n 0, 1) := by decide +kernel
theorem d_Sheet_lowestBits_1 : decode prog_8_method_4_code 1 = .ok (.getfield 9, 3) := by decide +kernel
theorem d_Sheet_lowestBits_4 : decode prog_8_method_4_code 4 = .ok (.lookupswitch 34 #[(8, 28), (16, 31)], 28) := by decide +kernel
theorem d_Sheet_lowestBits_32 : decode prog_8_method_4_code 32 = .ok (.iload_n 1, 1) := by decide +kernel
theorem d_Sheet_lowestBits_33 : decode prog_8_method_4_code 33 = .ok (.i2b, 1) := by decide +kernel
theorem d_Sheet_lowestBits_34 : decode prog_8_method_4_code 34 = .ok (.ireturn, 1) := by decide +kernel
theorem d_Sheet_lowestBits_35 : decode prog_8_method_4_code 35 = .ok (.iload_n 1, 1) := by decide +kernel
theorem d_Sheet_lowestBits_36 : decode prog_8_method_4_code 36 = .ok (.i2s, 1) := by decide +kernel
theorem d_Sheet_lowestBits_37 : decode prog_8_method_4_code 37 = .ok (.ireturn, 1) := by decide +kernel
theorem d_Sheet_lowestBits_38 : decode prog_8_method_4_code 38 = .ok (.iload_n 1, 1) := by decide +kernel
theorem d_Sheet_lowestBits_39 : decode prog_8_method_4_code 39 = .ok (.ireturn, 1) := by decide +kernel
set_option maxRecDepth 100000 in
theorem c_Sheet_lowestBits {a : Nat} {v : Int32} {l : Launch} {d n : Nat} {R W Z : Nat → Nat → Int32} {T : Nat → Nat → Nat} {kn : Kn} {h0 : HP} {Q : QT} (hd : ds a = Ds.sh) (hQ : Q (some (.int (low (Z a 2) v))) n (co R W Z T kn h0)) : Ct l M_Sheet_lowestBits d 0 0 [.ref a, .int v] n (co R W Z T kn h0) Q := by
  refine Ct.of (fun _ => trivial) (by decide) (Nat.le_of_ble_eq_true rfl) ?_
  unfold low at hQ
  refine V.aload_n d_Sheet_lowestBits_0 rfl ?_
  refine V.get d_Sheet_lowestBits_1 f_Sheet_9_Sheet (co_s (sc_sh hd)) rfl ?_
  by_cases e8 : Z a 2 = nI 8
  · skip
    refine V.top (y := nI 8) e8 ?_
    refine V.lookup (tgt := 32) (off := 28) d_Sheet_lowestBits_4 (by decide +kernel) (by decide +kernel) (by decide) ?_
    rw [if_pos e8] at hQ
    refine V.iload_n d_Sheet_lowestBits_32 rfl ?_
    refine V.i2b d_Sheet_lowestBits_33 ?_
    refine V.iret d_Sheet_lowestBits_34 rfl (Nat.le_of_ble_eq_true rfl) (Nat.le_of_ble_eq_true rfl) ?_
    exact hQ
  rw [if_neg e8] at hQ
  by_cases e16 : Z a 2 = nI 16
  · skip
    refine V.top (y := nI 16) e16 ?_
    refine V.lookup (tgt := 35) (off := 31) d_Sheet_lowestBits_4 (by decide +kernel) (by decide +kernel) (by decide) ?_
    rw [if_pos e16] at hQ
    refine V.iload_n d_Sheet_lowestBits_35 rfl ?_
    refine V.i2s d_Sheet_lowestBits_36 ?_
    refine V.iret d_Sheet_lowestBits_37 rfl (Nat.le_of_ble_eq_true rfl) (Nat.le_of_ble_eq_true rfl) ?_
    exact hQ
  rw [if_neg e16] at hQ
  refine V.lookup (tgt := 38) (off := 34) d_Sheet_lowestBits_4 (by decide +kernel) (by refine (lv_osw e8 (by decide +kernel)).trans ?_; refine (lv_osw e16 (by decide +kernel)).trans ?_; rfl) (by decide) ?_
  refine V.iload_n d_Sheet_lowestBits_38 rfl ?_
  refine V.iret d_Sheet_lowestBits_39 rfl (Nat.le_of_ble_eq_true rfl) (Nat.le_of_ble_eq_true rfl) ?_
  exact hQ
abbrev M_F_sheet : MD := (⟨"FelledByNames", "sheet", "(III)I"⟩, prog_1_method_32_code, 4, (some .int), fun _ => True)
theorem d_F_sheet_35 : decode prog_1_method_32_code 35 = .ok (.iload_n 2, 1) := by decide +kernel
theorem d_F_sheet_36 : decode prog_1_method_32_code 36 = .ok (.ifCond .eq 13, 3) := by decide +kernel
theorem d_F_sheet_49 : decode prog_1_method_32_code 49 = .ok (.iload_n 2, 1) := by decide +kernel
theorem d_F_sheet_50 : decode prog_1_method_32_code 50 = .ok (.ifCond .eq 15, 3) := by decide +kernel
theorem d_F_sheet_65 : decode prog_1_method_32_code 65 = .ok (.aload_n 0, 1) := by decide +kernel
theorem d_F_sheet_66 : decode prog_1_method_32_code 66 = .ok (.getfield 54, 3) := by decide +kernel
theorem f_F_54_F : fok "FelledByNames" 54 0 7 := ⟨R_F, F_F, 15, "FelledByNames", rfl, i_F, by decide, tm 431 (by decide +kernel) rfl, Or.inl rfl, t_F, t_F_ok, n_F⟩
theorem d_F_sheet_69 : decode prog_1_method_32_code 69 = .ok (.iload_n 1, 1) := by decide +kernel
theorem d_F_sheet_70 : decode prog_1_method_32_code 70 = .ok (.aaload, 1) := by decide +kernel
theorem d_F_sheet_71 : decode prog_1_method_32_code 71 = .ok (.iload_n 2, 1) := by decide +kernel
theorem d_F_sheet_72 : decode prog_1_method_32_code 72 = .ok (.iload_n 2, 1) := by decide +kernel
theorem d_F_sheet_73 : decode prog_1_method_32_code 73 = .ok (.ifCond .ne 7, 3) := by decide +kernel
theorem d_F_sheet_76 : decode prog_1_method_32_code 76 = .ok (.iconst 0, 1) := by decide +kernel
theorem d_F_sheet_77 : decode prog_1_method_32_code 77 = .ok (.goto 4, 3) := by decide +kernel
theorem d_F_sheet_81 : decode prog_1_method_32_code 81 = .ok (.invokevirtual 286, 3) := by decide +kernel
theorem kB_Sheet_renew : kB M_Sheet_renew 2 := ⟨tm 14 (by decide +kernel) rfl, tm 990 (by decide +kernel) rfl, ⟨by decide, by decide, by decide +kernel⟩, by decide⟩
theorem k_F_286_Sheet_renew_SheetV : kV "FelledByNames" 286 2 M_Sheet_renew 2 := ⟨kB_Sheet_renew, tm 987 (by decide +kernel) rfl, tm 988 (by decide +kernel) rfl, tm 989 (by decide +kernel) rfl, _, rfl, rfl⟩
theorem d_F_sheet_84 : decode prog_1_method_32_code 84 = .ok (.iconst 1, 1) := by decide +kernel
theorem d_F_sheet_85 : decode prog_1_method_32_code 85 = .ok (.ireturn, 1) := by decide +kernel
theorem d_F_sheet_39 : decode prog_1_method_32_code 39 = .ok (.iload_n 3, 1) := by decide +kernel
theorem d_F_sheet_40 : decode prog_1_method_32_code 40 = .ok (.ifCond .ge 9, 3) := by decide +kernel
theorem d_F_sheet_53 : decode prog_1_method_32_code 53 = .ok (.iload_n 3, 1) := by decide +kernel
theorem d_F_sheet_54 : decode prog_1_method_32_code 54 = .ok (.bipush 40, 2) := by decide +kernel
theorem d_F_sheet_56 : decode prog_1_method_32_code 56 = .ok (.if_icmp .le 9, 3) := by decide +kernel
theorem d_F_sheet_80 : decode prog_1_method_32_code 80 = .ok (.iload_n 3, 1) := by decide +kernel
theorem d_F_sheet_59 : decode prog_1_method_32_code 59 = .ok (.aload_n 0, 1) := by decide +kernel
theorem d_F_sheet_60 : decode prog_1_method_32_code 60 = .ok (.iconst 1, 1) := by decide +kernel
theorem d_F_sheet_61 : decode prog_1_method_32_code 61 = .ok (.invokevirtual 97, 3) := by decide +kernel
theorem d_F_sheet_64 : decode prog_1_method_32_code 64 = .ok (.ireturn, 1) := by decide +kernel
theorem d_F_sheet_43 : decode prog_1_method_32_code 43 = .ok (.aload_n 0, 1) := by decide +kernel
theorem d_F_sheet_44 : decode prog_1_method_32_code 44 = .ok (.iconst 3, 1) := by decide +kernel
theorem d_F_sheet_45 : decode prog_1_method_32_code 45 = .ok (.invokevirtual 97, 3) := by decide +kernel
theorem d_F_sheet_48 : decode prog_1_method_32_code 48 = .ok (.ireturn, 1) := by decide +kernel
theorem d_F_sheet_0 : decode prog_1_method_32_code 0 = .ok (.iload_n 1, 1) := by decide +kernel
theorem d_F_sheet_1 : decode prog_1_method_32_code 1 = .ok (.invokestatic 233, 3) := by decide +kernel
theorem kB_F_isSheet : kB M_F_isSheet 1 := ⟨tm 1 (by decide +kernel) rfl, tm 835 (by decide +kernel) rfl, ⟨by decide, by decide, by decide +kernel⟩, by decide⟩
theorem k_F_233_F_isSheetS : kS "FelledByNames" 233 M_F_isSheet 1 := ⟨kB_F_isSheet, tm 833 (by decide +kernel) rfl, tm 834 (by decide +kernel) rfl⟩
theorem d_F_sheet_4 : decode prog_1_method_32_code 4 = .ok (.ifCond .eq 25, 3) := by decide +kernel
theorem d_F_sheet_29 : decode prog_1_method_32_code 29 = .ok (.aload_n 0, 1) := by decide +kernel
theorem d_F_sheet_30 : decode prog_1_method_32_code 30 = .ok (.iconst 1, 1) := by decide +kernel
theorem d_F_sheet_31 : decode prog_1_method_32_code 31 = .ok (.invokevirtual 97, 3) := by decide +kernel
theorem d_F_sheet_34 : decode prog_1_method_32_code 34 = .ok (.ireturn, 1) := by decide +kernel
theorem d_F_sheet_7 : decode prog_1_method_32_code 7 = .ok (.iload_n 2, 1) := by decide +kernel
theorem d_F_sheet_8 : decode prog_1_method_32_code 8 = .ok (.ifCond .eq 27, 3) := by decide +kernel
theorem d_F_sheet_11 : decode prog_1_method_32_code 11 = .ok (.iload_n 2, 1) := by decide +kernel
theorem d_F_sheet_12 : decode prog_1_method_32_code 12 = .ok (.bipush 8, 2) := by decide +kernel
theorem d_F_sheet_14 : decode prog_1_method_32_code 14 = .ok (.if_icmp .eq 21, 3) := by decide +kernel
theorem d_F_sheet_17 : decode prog_1_method_32_code 17 = .ok (.iload_n 2, 1) := by decide +kernel
theorem d_F_sheet_18 : decode prog_1_method_32_code 18 = .ok (.bipush 16, 2) := by decide +kernel
theorem d_F_sheet_20 : decode prog_1_method_32_code 20 = .ok (.if_icmp .eq 15, 3) := by decide +kernel
theorem d_F_sheet_23 : decode prog_1_method_32_code 23 = .ok (.iload_n 2, 1) := by decide +kernel
theorem d_F_sheet_24 : decode prog_1_method_32_code 24 = .ok (.bipush 32, 2) := by decide +kernel
theorem d_F_sheet_26 : decode prog_1_method_32_code 26 = .ok (.if_icmp .eq 9, 3) := by decide +kernel
set_option maxRecDepth 100000 in
theorem c_F_sheet {x y z : Int32} {l : Launch} {d n : Nat} {R W Z : Nat → Nat → Int32} {T : Nat → Nat → Nat} {kn : Kn} {h0 : HP} {Q : QT} (hE : (wi x (nI 0) (nI 3) = false ∨ ¬ bok y) → Q (some (.int (-1000000000 - nI 1))) n (co (uA R 54 (upd (R 54) 1 (R 54 1 + nI 1))) W Z T kn h0)) (hS : wi x (nI 0) (nI 3) = true → bok y → ¬ y = 0 → z < 0 → Q (some (.int (-1000000000 - nI 3))) n (co (uA R 54 (upd (R 54) 3 (R 54 3 + nI 1))) W Z T kn h0)) (hB : wi x (nI 0) (nI 3) = true → bok y → ¬ y = 0 → 0 ≤ z → ¬ z ≤ nI 40 → Q (some (.int (-1000000000 - nI 1))) n (co (uA R 54 (upd (R 54) 1 (R 54 1 + nI 1))) W Z T kn h0)) (hOk : ∀ i, i ≤ 3 → x = nI i → bok y → (¬ y = 0 → 0 ≤ z ∧ z ≤ nI 40) → Q (some (.int (nI 1))) n (co (uA R (80 + 2 * i + 1) (flN 40 (nI 0) (R (80 + 2 * i + 1)))) W (uZ (uZ Z (80 + 2 * i) 2 y) (80 + 2 * i) 1 (hld (if y = 0 then nI 0 else z) (nI 0) (nI 40))) T kn h0)) : Ct l M_F_sheet (d + 3) 0 0 [.ref 0, .int x, .int y, .int z] n (co R W Z T kn h0) Q := by
  refine Ct.of (fun _ => trivial) (by decide) (Nat.le_of_ble_eq_true rfl) ?_
  have key : bok y → wi x (nI 0) (nI 3) = true → V l M_F_sheet (d + 3) 0 0 35 [(0, .ref 0), (1, .int x), (2, .int y), (3, .int z)] [] n (co R W Z T kn h0) 0 0 Q := by
    intro hb hx3
    refine V.iload_n d_F_sheet_35 rfl ?_
    refine V.if_eq (tgt := 49) d_F_sheet_36 (by decide) (fun c_36 => ?_) (fun c_36 => ?_)
    · skip
      refine V.iload_n d_F_sheet_49 rfl ?_
      refine V.if_eq (tgt := 65) d_F_sheet_50 (by decide) (fun c_50 => ?_) (fun c_50 => ?_)
      · skip
        obtain ⟨i, hi, rfl⟩ := wi_nat (k := 3) (by decide) hx3
        refine V.aload_n d_F_sheet_65 rfl ?_
        refine V.get d_F_sheet_66 f_F_54_F (co_s sc_ob) rfl ?_
        refine V.iload_n d_F_sheet_69 rfl ?_
        refine V.aald (b := 80 + 2 * i) d_F_sheet_70 (Or.inr rfl) (co_s sc_ss) (vp_in_nI (by omega) (by omega)) (by rw [icl (by omega)]; exact if_pos (by omega)) ?_
        refine V.iload_n d_F_sheet_71 rfl ?_
        refine V.iload_n d_F_sheet_72 rfl ?_
        refine V.if_ne (tgt := 80) d_F_sheet_73 (by decide) (fun c_73 => ?_) (fun c_73 => ?_)
        · skip
          exact absurd c_36 c_73
        · skip
          refine V.iconst_ (nI 0) d_F_sheet_76 (by decide +kernel) ?_
          refine V.goto (tgt := 81) d_F_sheet_77 (by decide) ?_
          refine V.callV2 d_F_sheet_81 k_F_286_Sheet_renew_SheetV (co_s (sc_sh (sh_ds i (by omega)).1)) (Nat.le_of_ble_eq_true rfl) (by omega) (by omega) (c_Sheet_renew (sh_ds i (by omega)).1 (sh_ds i (by omega)).2 ?_)
          refine V.iconst_ (nI 1) d_F_sheet_84 (by decide +kernel) ?_
          refine V.iret d_F_sheet_85 rfl (by omega) (by omega) ?_
          have h := hOk i hi rfl hb (fun z => absurd c_36 z)
          rw [if_pos c_36] at h
          exact h
      · skip
        exact absurd c_36 c_50
    · skip
      refine V.iload_n d_F_sheet_39 rfl ?_
      refine V.if_ge (tgt := 49) d_F_sheet_40 (by decide) (fun c_40 => ?_) (fun c_40 => ?_)
      · skip
        refine V.iload_n d_F_sheet_49 rfl ?_
        refine V.if_eq (tgt := 65) d_F_sheet_50 (by decide) (fun c_50 => ?_) (fun c_50 => ?_)
        · skip
          exact absurd c_50 c_36
        · skip
          refine V.iload_n d_F_sheet_53 rfl ?_
          refine V.bipush_ (nI 40) d_F_sheet_54 (by decide +kernel) ?_
          refine V.icmp_le (tgt := 65) d_F_sheet_56 (by decide) (fun c_56 => ?_) (fun c_56 => ?_)
          · skip
            obtain ⟨i, hi, rfl⟩ := wi_nat (k := 3) (by decide) hx3
            refine V.aload_n d_F_sheet_65 rfl ?_
            refine V.get d_F_sheet_66 f_F_54_F (co_s sc_ob) rfl ?_
            refine V.iload_n d_F_sheet_69 rfl ?_
            refine V.aald (b := 80 + 2 * i) d_F_sheet_70 (Or.inr rfl) (co_s sc_ss) (vp_in_nI (by omega) (by omega)) (by rw [icl (by omega)]; exact if_pos (by omega)) ?_
            refine V.iload_n d_F_sheet_71 rfl ?_
            refine V.iload_n d_F_sheet_72 rfl ?_
            refine V.if_ne (tgt := 80) d_F_sheet_73 (by decide) (fun c_73 => ?_) (fun c_73 => ?_)
            · skip
              refine V.iload_n d_F_sheet_80 rfl ?_
              refine V.callV2 d_F_sheet_81 k_F_286_Sheet_renew_SheetV (co_s (sc_sh (sh_ds i (by omega)).1)) (Nat.le_of_ble_eq_true rfl) (by omega) (by omega) (c_Sheet_renew (sh_ds i (by omega)).1 (sh_ds i (by omega)).2 ?_)
              refine V.iconst_ (nI 1) d_F_sheet_84 (by decide +kernel) ?_
              refine V.iret d_F_sheet_85 rfl (by omega) (by omega) ?_
              have h := hOk i hi rfl hb (fun _ => ⟨c_40, c_56⟩)
              rw [if_neg c_36] at h
              exact h
            · skip
              exact absurd c_73 c_36
          · skip
            refine V.aload_n d_F_sheet_59 rfl ?_
            refine V.iconst_ (nI 1) d_F_sheet_60 (by decide +kernel) ?_
            refine V.callV1 d_F_sheet_61 k_F_97_F_error_FV (co_s sc_ob) (Nat.le_of_ble_eq_true rfl) (by omega) (by omega) (c_F_error (by decide) ?_)
            refine V.iret d_F_sheet_64 rfl (by omega) (by omega) ?_
            exact hB hx3 hb c_36 c_40 c_56
      · skip
        refine V.aload_n d_F_sheet_43 rfl ?_
        refine V.iconst_ (nI 3) d_F_sheet_44 (by decide +kernel) ?_
        refine V.callV1 d_F_sheet_45 k_F_97_F_error_FV (co_s sc_ob) (Nat.le_of_ble_eq_true rfl) (by omega) (by omega) (c_F_error (by decide) ?_)
        refine V.iret d_F_sheet_48 rfl (by omega) (by omega) ?_
        exact hS hx3 hb c_36 (Int32.not_le.mp c_40)
  refine V.iload_n d_F_sheet_0 rfl ?_
  refine V.callS1 d_F_sheet_1 k_F_233_F_isSheetS (Nat.le_of_ble_eq_true rfl) (by omega) (by omega) (c_F_isSheet ?_)
  refine V.ifeqB (tgt := 29) d_F_sheet_4 (by decide) (fun c_4 => ?_) (fun c_4 => ?_)
  · skip
    refine V.aload_n d_F_sheet_29 rfl ?_
    refine V.iconst_ (nI 1) d_F_sheet_30 (by decide +kernel) ?_
    refine V.callV1 d_F_sheet_31 k_F_97_F_error_FV (co_s sc_ob) (Nat.le_of_ble_eq_true rfl) (by omega) (by omega) (c_F_error (by decide) ?_)
    refine V.iret d_F_sheet_34 rfl (by omega) (by omega) ?_
    exact hE (Or.inl c_4)
  · skip
    refine V.iload_n d_F_sheet_7 rfl ?_
    refine V.if_eq (tgt := 35) d_F_sheet_8 (by decide) (fun c_8 => ?_) (fun c_8 => ?_)
    · skip
      exact V.lc rfl (key (Or.inl c_8) c_4)
    · skip
      refine V.iload_n d_F_sheet_11 rfl ?_
      refine V.bipush_ (nI 8) d_F_sheet_12 (by decide +kernel) ?_
      refine V.icmp_eq (tgt := 35) d_F_sheet_14 (by decide) (fun c_14 => ?_) (fun c_14 => ?_)
      · skip
        exact V.lc rfl (key (Or.inr (Or.inl c_14)) c_4)
      · skip
        refine V.iload_n d_F_sheet_17 rfl ?_
        refine V.bipush_ (nI 16) d_F_sheet_18 (by decide +kernel) ?_
        refine V.icmp_eq (tgt := 35) d_F_sheet_20 (by decide) (fun c_20 => ?_) (fun c_20 => ?_)
        · skip
          exact V.lc rfl (key (Or.inr (Or.inr (Or.inl c_20))) c_4)
        · skip
          refine V.iload_n d_F_sheet_23 rfl ?_
          refine V.bipush_ (nI 32) d_F_sheet_24 (by decide +kernel) ?_
          refine V.icmp_eq (tgt := 35) d_F_sheet_26 (by decide) (fun c_26 => ?_) (fun c_26 => ?_)
          · skip
            exact V.lc rfl (key (Or.inr (Or.inr (Or.inr c_26))) c_4)
          · skip
            refine V.aload_n d_F_sheet_29 rfl ?_
            refine V.iconst_ (nI 1) d_F_sheet_30 (by decide +kernel) ?_
            refine V.callV1 d_F_sheet_31 k_F_97_F_error_FV (co_s sc_ob) (Nat.le_of_ble_eq_true rfl) (by omega) (by omega) (c_F_error (by decide) ?_)
            refine V.iret d_F_sheet_34 rfl (by omega) (by omega) ?_
            exact hE (Or.inr (fun z => z.elim c_8 (fun z => z.elim c_14 (fun z => z.elim c_20 c_26))))
abbrev M_F_put : MD := (⟨"FelledByNames", "put", "(III)I"⟩, prog_1_method_33_code, 5, (some .int), fun _ => True)
theorem d_F_put_0 : decode prog_1_method_33_code 0 = .ok (.iload_n 1, 1) := by decide +kernel
theorem d_F_put_1 : decode prog_1_method_33_code 1 = .ok (.invokestatic 233, 3) := by decide +kernel
theorem d_F_put_4 : decode prog_1_method_33_code 4 = .ok (.ifCond .ne 9, 3) := by decide +kernel
theorem d_F_put_13 : decode prog_1_method_33_code 13 = .ok (.aload_n 0, 1) := by decide +kernel
theorem d_F_put_14 : decode prog_1_method_33_code 14 = .ok (.getfield 54, 3) := by decide +kernel
theorem d_F_put_17 : decode prog_1_method_33_code 17 = .ok (.iload_n 1, 1) := by decide +kernel
theorem d_F_put_18 : decode prog_1_method_33_code 18 = .ok (.aaload, 1) := by decide +kernel
theorem d_F_put_19 : decode prog_1_method_33_code 19 = .ok (.astore 4, 2) := by decide +kernel
theorem d_F_put_21 : decode prog_1_method_33_code 21 = .ok (.aload 4, 2) := by decide +kernel
theorem d_F_put_23 : decode prog_1_method_33_code 23 = .ok (.invokevirtual 240, 3) := by decide +kernel
theorem kB_Sheet_isMissing : kB M_Sheet_isMissing 0 := ⟨tm 14 (by decide +kernel) rfl, tm 843 (by decide +kernel) rfl, ⟨by decide, by decide, by decide +kernel⟩, by decide⟩
theorem k_F_240_Sheet_isMissing_SheetV : kV "FelledByNames" 240 2 M_Sheet_isMissing 0 := ⟨kB_Sheet_isMissing, tm 840 (by decide +kernel) rfl, tm 841 (by decide +kernel) rfl, tm 842 (by decide +kernel) rfl, _, rfl, rfl⟩
theorem d_F_put_26 : decode prog_1_method_33_code 26 = .ok (.ifCond .eq 9, 3) := by decide +kernel
theorem d_F_put_35 : decode prog_1_method_33_code 35 = .ok (.aload 4, 2) := by decide +kernel
theorem d_F_put_37 : decode prog_1_method_33_code 37 = .ok (.iload_n 2, 1) := by decide +kernel
theorem d_F_put_38 : decode prog_1_method_33_code 38 = .ok (.invokevirtual 289, 3) := by decide +kernel
theorem k_F_289_Row_has_SheetU : kU "FelledByNames" 289 2 "FelledByNames$Row" ⟨"FelledByNames$Sheet", "has", "(I)Z"⟩ M_Row_has 1 := ⟨kB_Row_has, tm 997 (by decide +kernel) rfl, tm 998 (by decide +kernel) rfl, ⟨by decide, by decide⟩, tm 978 (by decide +kernel) rfl, ⟨prog_6_method_2_code, 2, (some .boolean), tm 982 (by decide +kernel) rfl⟩, by decide +kernel, tm 978 (by decide +kernel) rfl, _, rfl, tm 1000 (by decide +kernel) rfl⟩
theorem d_F_put_41 : decode prog_1_method_33_code 41 = .ok (.ifCond .ne 9, 3) := by decide +kernel
theorem d_F_put_50 : decode prog_1_method_33_code 50 = .ok (.aload 4, 2) := by decide +kernel
theorem d_F_put_52 : decode prog_1_method_33_code 52 = .ok (.getfield 290, 3) := by decide +kernel
theorem f_F_290_Sheet : fok "FelledByNames" 290 2 0 := ⟨R_Sheet, F_Sheet, 3, "FelledByNames$Sheet", rfl, i_Sheet, by decide, tm 45 (by decide +kernel) rfl, Or.inr (tm 42 (by decide +kernel) rfl), t_Sheet, t_Sheet_ok, n_Sheet⟩
theorem d_F_put_55 : decode prog_1_method_33_code 55 = .ok (.iload_n 2, 1) := by decide +kernel
theorem d_F_put_56 : decode prog_1_method_33_code 56 = .ok (.aload 4, 2) := by decide +kernel
theorem d_F_put_58 : decode prog_1_method_33_code 58 = .ok (.iload_n 3, 1) := by decide +kernel
theorem d_F_put_59 : decode prog_1_method_33_code 59 = .ok (.invokevirtual 293, 3) := by decide +kernel
theorem kB_Sheet_lowestBits : kB M_Sheet_lowestBits 1 := ⟨tm 14 (by decide +kernel) rfl, tm 1004 (by decide +kernel) rfl, ⟨by decide, by decide, by decide +kernel⟩, by decide⟩
theorem k_F_293_Sheet_lowestBits_SheetV : kV "FelledByNames" 293 2 M_Sheet_lowestBits 1 := ⟨kB_Sheet_lowestBits, tm 1001 (by decide +kernel) rfl, tm 1002 (by decide +kernel) rfl, tm 1003 (by decide +kernel) rfl, _, rfl, rfl⟩
theorem d_F_put_62 : decode prog_1_method_33_code 62 = .ok (.iastore, 1) := by decide +kernel
theorem d_F_put_63 : decode prog_1_method_33_code 63 = .ok (.iconst 1, 1) := by decide +kernel
theorem d_F_put_64 : decode prog_1_method_33_code 64 = .ok (.ireturn, 1) := by decide +kernel
theorem d_F_put_44 : decode prog_1_method_33_code 44 = .ok (.aload_n 0, 1) := by decide +kernel
theorem d_F_put_45 : decode prog_1_method_33_code 45 = .ok (.iconst 1, 1) := by decide +kernel
theorem d_F_put_46 : decode prog_1_method_33_code 46 = .ok (.invokevirtual 97, 3) := by decide +kernel
theorem d_F_put_49 : decode prog_1_method_33_code 49 = .ok (.ireturn, 1) := by decide +kernel
theorem d_F_put_29 : decode prog_1_method_33_code 29 = .ok (.aload_n 0, 1) := by decide +kernel
theorem d_F_put_30 : decode prog_1_method_33_code 30 = .ok (.iconst 2, 1) := by decide +kernel
theorem d_F_put_31 : decode prog_1_method_33_code 31 = .ok (.invokevirtual 97, 3) := by decide +kernel
theorem d_F_put_34 : decode prog_1_method_33_code 34 = .ok (.ireturn, 1) := by decide +kernel
theorem d_F_put_7 : decode prog_1_method_33_code 7 = .ok (.aload_n 0, 1) := by decide +kernel
theorem d_F_put_8 : decode prog_1_method_33_code 8 = .ok (.iconst 1, 1) := by decide +kernel
theorem d_F_put_9 : decode prog_1_method_33_code 9 = .ok (.invokevirtual 97, 3) := by decide +kernel
theorem d_F_put_12 : decode prog_1_method_33_code 12 = .ok (.ireturn, 1) := by decide +kernel
set_option maxRecDepth 100000 in
theorem c_F_put {x y v : Int32} {l : Launch} {d n : Nat} {R W Z : Nat → Nat → Int32} {T : Nat → Nat → Nat} {kn : Kn} {h0 : HP} {Q : QT} (hSz : ∀ i, i < 4 → ∃ k, k ≤ 40 ∧ Z (80 + 2 * i) 1 = nI k) (hE : wi x (nI 0) (nI 3) = false → Q (some (.int (-1000000000 - nI 1))) n (co (uA R 54 (upd (R 54) 1 (R 54 1 + nI 1))) W Z T kn h0)) (hN : ∀ i, i ≤ 3 → x = nI i → Z (80 + 2 * i) 2 = 0 → Q (some (.int (-1000000000 - nI 2))) n (co (uA R 54 (upd (R 54) 2 (R 54 2 + nI 1))) W Z T kn h0)) (hB : ∀ i sz, i ≤ 3 → x = nI i → ¬ Z (80 + 2 * i) 2 = 0 → Z (80 + 2 * i) 1 = nI sz → sz ≤ 40 → wh y (nI sz) = false → Q (some (.int (-1000000000 - nI 1))) n (co (uA R 54 (upd (R 54) 1 (R 54 1 + nI 1))) W Z T kn h0)) (hOk : ∀ i sz j, i ≤ 3 → x = nI i → ¬ Z (80 + 2 * i) 2 = 0 → Z (80 + 2 * i) 1 = nI sz → sz ≤ 40 → j < sz → y = nI j → Q (some (.int (nI 1))) n (co (uA R (80 + 2 * i + 1) (upd (R (80 + 2 * i + 1)) j (low (Z (80 + 2 * i) 2) v))) W Z T kn h0)) : Ct l M_F_put (d + 2) 0 0 [.ref 0, .int x, .int y, .int v] n (co R W Z T kn h0) Q := by
  refine Ct.of (fun _ => trivial) (by decide) (Nat.le_of_ble_eq_true rfl) ?_
  refine V.iload_n d_F_put_0 rfl ?_
  refine V.callS1 d_F_put_1 k_F_233_F_isSheetS (Nat.le_of_ble_eq_true rfl) (by omega) (by omega) (c_F_isSheet ?_)
  refine V.ifneB (tgt := 13) d_F_put_4 (by decide) (fun c_4 => ?_) (fun c_4 => ?_)
  · skip
    obtain ⟨i, hi, rfl⟩ := wi_nat (k := 3) (by decide) c_4
    obtain ⟨sz, hsz, esz⟩ := hSz i (by omega)
    refine V.aload_n d_F_put_13 rfl ?_
    refine V.get d_F_put_14 f_F_54_F (co_s sc_ob) rfl ?_
    refine V.iload_n d_F_put_17 rfl ?_
    refine V.aald (b := 80 + 2 * i) d_F_put_18 (Or.inr rfl) (co_s sc_ss) (vp_in_nI (by omega) (by omega)) (by rw [icl (by omega)]; exact if_pos (by omega)) ?_
    refine V.astore d_F_put_19 (by decide) ?_
    refine V.aload d_F_put_21 rfl ?_
    refine V.callV0 d_F_put_23 k_F_240_Sheet_isMissing_SheetV (co_s (sc_sh (sh_ds i (by omega)).1)) (Nat.le_of_ble_eq_true rfl) (by omega) (by omega) (c_Sheet_isMissing (sh_ds i (by omega)).1 ?_)
    refine V.ifeqB (tgt := 35) d_F_put_26 (by decide) (fun c_26 => ?_) (fun c_26 => ?_)
    · skip
      refine V.aload d_F_put_35 rfl ?_
      refine V.iload_n d_F_put_37 rfl ?_
      refine V.callU (vs := [_]) d_F_put_38 k_F_289_Row_has_SheetU (co_s (sc_sh (sh_ds i (by omega)).1)) rfl rfl (Nat.le_of_ble_eq_true rfl) (by omega) (by omega) (c_Sheet_has (a := 80 + 2 * i) (sz := sz) (sh_ds i (by omega)).1 (sh_ds i (by omega)).2 esz hsz ?_)
      refine V.ifneB (tgt := 50) d_F_put_41 (by decide) (fun c_41 => ?_) (fun c_41 => ?_)
      · skip
        obtain ⟨j, hj, rfl⟩ := wh_nat (by omega) c_41
        refine V.aload d_F_put_50 rfl ?_
        refine V.get d_F_put_52 f_F_290_Sheet (co_s (sc_sh (sh_ds i (by omega)).1)) rfl ?_
        refine V.iload_n d_F_put_55 rfl ?_
        refine V.aload d_F_put_56 rfl ?_
        refine V.iload_n d_F_put_58 rfl ?_
        refine V.callV1 d_F_put_59 k_F_293_Sheet_lowestBits_SheetV (co_s (sc_sh (sh_ds i (by omega)).1)) (Nat.le_of_ble_eq_true rfl) (by omega) (by omega) (c_Sheet_lowestBits (sh_ds i (by omega)).1 ?_)
        refine V.iastN d_F_put_62 (co_s (sc_ar (sh_ds i (by omega)).2)) (by omega) (by omega) ?_
        refine V.eqH (co_uR (sh_ds i (by omega)).2) ?_
        refine V.iconst_ (nI 1) d_F_put_63 (by decide +kernel) ?_
        refine V.iret d_F_put_64 rfl (by omega) (by omega) ?_
        exact hOk i sz j hi rfl (of_decide_eq_false c_26) esz hsz hj rfl
      · skip
        refine V.aload_n d_F_put_44 rfl ?_
        refine V.iconst_ (nI 1) d_F_put_45 (by decide +kernel) ?_
        refine V.callV1 d_F_put_46 k_F_97_F_error_FV (co_s sc_ob) (Nat.le_of_ble_eq_true rfl) (by omega) (by omega) (c_F_error (by decide) ?_)
        refine V.iret d_F_put_49 rfl (by omega) (by omega) ?_
        exact hB i sz hi rfl (of_decide_eq_false c_26) esz hsz c_41
    · skip
      refine V.aload_n d_F_put_29 rfl ?_
      refine V.iconst_ (nI 2) d_F_put_30 (by decide +kernel) ?_
      refine V.callV1 d_F_put_31 k_F_97_F_error_FV (co_s sc_ob) (Nat.le_of_ble_eq_true rfl) (by omega) (by omega) (c_F_error (by decide) ?_)
      refine V.iret d_F_put_34 rfl (by omega) (by omega) ?_
      exact hN i hi rfl (of_decide_eq_true c_26)
  · skip
    refine V.aload_n d_F_put_7 rfl ?_
    refine V.iconst_ (nI 1) d_F_put_8 (by decide +kernel) ?_
    refine V.callV1 d_F_put_9 k_F_97_F_error_FV (co_s sc_ob) (Nat.le_of_ble_eq_true rfl) (by omega) (by omega) (c_F_error (by decide) ?_)
    refine V.iret d_F_put_12 rfl (by omega) (by omega) ?_
    exact hE c_4
abbrev M_F_move : MD := (⟨"FelledByNames", "move", "(IIIII)I"⟩, prog_1_method_34_code, 8, (some .int), fun _ => True)
theorem hrnN {y w : Int32} {s : Nat} (hs : s ≤ 40) (h : hrn y w (nI s) = true) : ∃ a k, y = nI a ∧ w = nI k ∧ a + k ≤ s := by
  unfold hrn at h
  simp only [Bool.and_eq_true, decide_eq_true_eq] at h
  obtain ⟨⟨h1, h2⟩, h3⟩ := h
  obtain ⟨a, ha, rfl⟩ := nI_of (Int32.not_lt.mpr h1)
  obtain ⟨k, hk, rfl⟩ := nI_of (Int32.not_lt.mpr h2)
  refine ⟨a, k, rfl, rfl, ?_⟩
  have h4 := Int32.le_iff_toInt_le.mp h3
  rw [Int32.toInt_sub, nI_toInt hk, nI_toInt (by omega), nI_toInt ha] at h4
  have e : Int.bmod ((s : Int) - (a : Int)) (2 ^ 32) = (s : Int) - a := by
    rw [Int.bmod_def]
    split <;> omega
  rw [e] at h4
  omega
theorem d_F_move_0 : decode prog_1_method_34_code 0 = .ok (.iload_n 1, 1) := by decide +kernel
theorem d_F_move_1 : decode prog_1_method_34_code 1 = .ok (.invokestatic 233, 3) := by decide +kernel
theorem d_F_move_4 : decode prog_1_method_34_code 4 = .ok (.ifCond .eq 10, 3) := by decide +kernel
theorem d_F_move_14 : decode prog_1_method_34_code 14 = .ok (.aload_n 0, 1) := by decide +kernel
theorem d_F_move_15 : decode prog_1_method_34_code 15 = .ok (.iconst 1, 1) := by decide +kernel
theorem d_F_move_16 : decode prog_1_method_34_code 16 = .ok (.invokevirtual 97, 3) := by decide +kernel
theorem d_F_move_19 : decode prog_1_method_34_code 19 = .ok (.ireturn, 1) := by decide +kernel
theorem d_F_move_7 : decode prog_1_method_34_code 7 = .ok (.iload_n 3, 1) := by decide +kernel
theorem d_F_move_8 : decode prog_1_method_34_code 8 = .ok (.invokestatic 233, 3) := by decide +kernel
theorem d_F_move_11 : decode prog_1_method_34_code 11 = .ok (.ifCond .ne 9, 3) := by decide +kernel
theorem d_F_move_20 : decode prog_1_method_34_code 20 = .ok (.aload_n 0, 1) := by decide +kernel
theorem d_F_move_21 : decode prog_1_method_34_code 21 = .ok (.getfield 54, 3) := by decide +kernel
theorem d_F_move_24 : decode prog_1_method_34_code 24 = .ok (.iload_n 1, 1) := by decide +kernel
theorem d_F_move_25 : decode prog_1_method_34_code 25 = .ok (.aaload, 1) := by decide +kernel
theorem d_F_move_26 : decode prog_1_method_34_code 26 = .ok (.astore 6, 2) := by decide +kernel
theorem d_F_move_28 : decode prog_1_method_34_code 28 = .ok (.aload_n 0, 1) := by decide +kernel
theorem d_F_move_29 : decode prog_1_method_34_code 29 = .ok (.getfield 54, 3) := by decide +kernel
theorem d_F_move_32 : decode prog_1_method_34_code 32 = .ok (.iload_n 3, 1) := by decide +kernel
theorem d_F_move_33 : decode prog_1_method_34_code 33 = .ok (.aaload, 1) := by decide +kernel
theorem d_F_move_34 : decode prog_1_method_34_code 34 = .ok (.astore 7, 2) := by decide +kernel
theorem d_F_move_36 : decode prog_1_method_34_code 36 = .ok (.aload 6, 2) := by decide +kernel
theorem d_F_move_38 : decode prog_1_method_34_code 38 = .ok (.invokevirtual 240, 3) := by decide +kernel
theorem d_F_move_41 : decode prog_1_method_34_code 41 = .ok (.ifCond .ne 11, 3) := by decide +kernel
theorem d_F_move_52 : decode prog_1_method_34_code 52 = .ok (.aload_n 0, 1) := by decide +kernel
theorem d_F_move_53 : decode prog_1_method_34_code 53 = .ok (.iconst 2, 1) := by decide +kernel
theorem d_F_move_54 : decode prog_1_method_34_code 54 = .ok (.invokevirtual 97, 3) := by decide +kernel
theorem d_F_move_57 : decode prog_1_method_34_code 57 = .ok (.ireturn, 1) := by decide +kernel
theorem d_F_move_44 : decode prog_1_method_34_code 44 = .ok (.aload 7, 2) := by decide +kernel
theorem d_F_move_46 : decode prog_1_method_34_code 46 = .ok (.invokevirtual 240, 3) := by decide +kernel
theorem d_F_move_49 : decode prog_1_method_34_code 49 = .ok (.ifCond .eq 9, 3) := by decide +kernel
theorem d_F_move_58 : decode prog_1_method_34_code 58 = .ok (.aload 6, 2) := by decide +kernel
theorem d_F_move_60 : decode prog_1_method_34_code 60 = .ok (.getfield 296, 3) := by decide +kernel
theorem f_F_296_Sheet : fok "FelledByNames" 296 2 2 := ⟨R_Sheet, F_Sheet, 3, "FelledByNames$Sheet", rfl, i_Sheet, by decide, tm 418 (by decide +kernel) rfl, Or.inl rfl, t_Sheet, t_Sheet_ok, n_Sheet⟩
theorem d_F_move_63 : decode prog_1_method_34_code 63 = .ok (.aload 7, 2) := by decide +kernel
theorem d_F_move_65 : decode prog_1_method_34_code 65 = .ok (.getfield 296, 3) := by decide +kernel
theorem d_F_move_68 : decode prog_1_method_34_code 68 = .ok (.if_icmp .eq 9, 3) := by decide +kernel
theorem d_F_move_77 : decode prog_1_method_34_code 77 = .ok (.aload 6, 2) := by decide +kernel
theorem d_F_move_79 : decode prog_1_method_34_code 79 = .ok (.iload_n 2, 1) := by decide +kernel
theorem d_F_move_80 : decode prog_1_method_34_code 80 = .ok (.iload 5, 2) := by decide +kernel
theorem d_F_move_82 : decode prog_1_method_34_code 82 = .ok (.invokevirtual 299, 3) := by decide +kernel
theorem kB_Sheet_hasRun : kB M_Sheet_hasRun 2 := ⟨tm 14 (by decide +kernel) rfl, tm 1012 (by decide +kernel) rfl, ⟨by decide, by decide, by decide +kernel⟩, by decide⟩
theorem k_F_299_Sheet_hasRun_SheetV : kV "FelledByNames" 299 2 M_Sheet_hasRun 2 := ⟨kB_Sheet_hasRun, tm 1009 (by decide +kernel) rfl, tm 1010 (by decide +kernel) rfl, tm 1011 (by decide +kernel) rfl, _, rfl, rfl⟩
theorem d_F_move_85 : decode prog_1_method_34_code 85 = .ok (.ifCond .eq 15, 3) := by decide +kernel
theorem d_F_move_100 : decode prog_1_method_34_code 100 = .ok (.aload_n 0, 1) := by decide +kernel
theorem d_F_move_101 : decode prog_1_method_34_code 101 = .ok (.iconst 1, 1) := by decide +kernel
theorem d_F_move_102 : decode prog_1_method_34_code 102 = .ok (.invokevirtual 97, 3) := by decide +kernel
theorem d_F_move_105 : decode prog_1_method_34_code 105 = .ok (.ireturn, 1) := by decide +kernel
theorem d_F_move_88 : decode prog_1_method_34_code 88 = .ok (.aload 7, 2) := by decide +kernel
theorem d_F_move_90 : decode prog_1_method_34_code 90 = .ok (.iload 4, 2) := by decide +kernel
theorem d_F_move_92 : decode prog_1_method_34_code 92 = .ok (.iload 5, 2) := by decide +kernel
theorem d_F_move_94 : decode prog_1_method_34_code 94 = .ok (.invokevirtual 299, 3) := by decide +kernel
theorem d_F_move_97 : decode prog_1_method_34_code 97 = .ok (.ifCond .ne 9, 3) := by decide +kernel
theorem d_F_move_106 : decode prog_1_method_34_code 106 = .ok (.aload 6, 2) := by decide +kernel
theorem d_F_move_108 : decode prog_1_method_34_code 108 = .ok (.getfield 290, 3) := by decide +kernel
theorem d_F_move_111 : decode prog_1_method_34_code 111 = .ok (.iload_n 2, 1) := by decide +kernel
theorem d_F_move_112 : decode prog_1_method_34_code 112 = .ok (.aload 7, 2) := by decide +kernel
theorem d_F_move_114 : decode prog_1_method_34_code 114 = .ok (.getfield 290, 3) := by decide +kernel
theorem d_F_move_117 : decode prog_1_method_34_code 117 = .ok (.iload 4, 2) := by decide +kernel
theorem d_F_move_119 : decode prog_1_method_34_code 119 = .ok (.iload 5, 2) := by decide +kernel
theorem d_F_move_121 : decode prog_1_method_34_code 121 = .ok (.invokestatic 302, 3) := by decide +kernel
theorem d_F_move_124 : decode prog_1_method_34_code 124 = .ok (.iload 5, 2) := by decide +kernel
theorem d_F_move_126 : decode prog_1_method_34_code 126 = .ok (.ireturn, 1) := by decide +kernel
theorem d_F_move_71 : decode prog_1_method_34_code 71 = .ok (.aload_n 0, 1) := by decide +kernel
theorem d_F_move_72 : decode prog_1_method_34_code 72 = .ok (.iconst 5, 1) := by decide +kernel
theorem d_F_move_73 : decode prog_1_method_34_code 73 = .ok (.invokevirtual 97, 3) := by decide +kernel
theorem d_F_move_76 : decode prog_1_method_34_code 76 = .ok (.ireturn, 1) := by decide +kernel
set_option maxRecDepth 100000 in
theorem c_F_move {x y u v w : Int32} {l : Launch} {d n : Nat} {R W Z : Nat → Nat → Int32} {T : Nat → Nat → Nat} {kn : Kn} {h0 : HP} {Q : QT} (hSz : ∀ i, i < 4 → ∃ k, k ≤ 40 ∧ Z (80 + 2 * i) 1 = nI k) (hE : (wi x (nI 0) (nI 3) && wi u (nI 0) (nI 3)) = false → Q (some (.int (-1000000000 - nI 1))) n (co (uA R 54 (upd (R 54) 1 (R 54 1 + nI 1))) W Z T kn h0)) (hNo : ∀ i j, i ≤ 3 → j ≤ 3 → x = nI i → u = nI j → (Z (80 + 2 * i) 2 = 0 ∨ Z (80 + 2 * j) 2 = 0) → Q (some (.int (-1000000000 - nI 2))) n (co (uA R 54 (upd (R 54) 2 (R 54 2 + nI 1))) W Z T kn h0)) (hKd : ∀ i j, i ≤ 3 → j ≤ 3 → x = nI i → u = nI j → ¬ Z (80 + 2 * i) 2 = 0 → ¬ Z (80 + 2 * j) 2 = 0 → ¬ Z (80 + 2 * i) 2 = Z (80 + 2 * j) 2 → Q (some (.int (-1000000000 - nI 5))) n (co (uA R 54 (upd (R 54) 5 (R 54 5 + nI 1))) W Z T kn h0)) (hB : ∀ i j si sj, i ≤ 3 → j ≤ 3 → x = nI i → u = nI j → ¬ Z (80 + 2 * i) 2 = 0 → ¬ Z (80 + 2 * j) 2 = 0 → Z (80 + 2 * i) 2 = Z (80 + 2 * j) 2 → Z (80 + 2 * i) 1 = nI si → Z (80 + 2 * j) 1 = nI sj → si ≤ 40 → sj ≤ 40 → (hrn y w (nI si) && hrn v w (nI sj)) = false → Q (some (.int (-1000000000 - nI 1))) n (co (uA R 54 (upd (R 54) 1 (R 54 1 + nI 1))) W Z T kn h0)) (hOk : ∀ i j si sj a b k, i ≤ 3 → j ≤ 3 → x = nI i → u = nI j → ¬ Z (80 + 2 * i) 2 = 0 → ¬ Z (80 + 2 * j) 2 = 0 → Z (80 + 2 * i) 2 = Z (80 + 2 * j) 2 → Z (80 + 2 * i) 1 = nI si → Z (80 + 2 * j) 1 = nI sj → si ≤ 40 → sj ≤ 40 → a + k ≤ si → b + k ≤ sj → y = nI a → v = nI b → w = nI k → Q (some (.int (nI k))) n (co (uA R (80 + 2 * j + 1) (va_cpy (R (80 + 2 * i + 1)) (R (80 + 2 * j + 1)) a b k)) W Z T kn h0)) : Ct l M_F_move (d + 2) 0 0 [.ref 0, .int x, .int y, .int u, .int v, .int w] n (co R W Z T kn h0) Q := by
  refine Ct.of (fun _ => trivial) (by decide) (Nat.le_of_ble_eq_true rfl) ?_
  refine V.iload_n d_F_move_0 rfl ?_
  refine V.callS1 d_F_move_1 k_F_233_F_isSheetS (Nat.le_of_ble_eq_true rfl) (by omega) (by omega) (c_F_isSheet ?_)
  refine V.ifeqB (tgt := 14) d_F_move_4 (by decide) (fun c_4 => ?_) (fun c_4 => ?_)
  · skip
    refine V.aload_n d_F_move_14 rfl ?_
    refine V.iconst_ (nI 1) d_F_move_15 (by decide +kernel) ?_
    refine V.callV1 d_F_move_16 k_F_97_F_error_FV (co_s sc_ob) (Nat.le_of_ble_eq_true rfl) (by omega) (by omega) (c_F_error (by decide) ?_)
    refine V.iret d_F_move_19 rfl (by omega) (by omega) ?_
    exact hE (by simp only [c_4, Bool.and_false, Bool.false_and, Bool.and_true, Bool.true_and])
  · skip
    refine V.iload_n d_F_move_7 rfl ?_
    refine V.callS1 d_F_move_8 k_F_233_F_isSheetS (Nat.le_of_ble_eq_true rfl) (by omega) (by omega) (c_F_isSheet ?_)
    refine V.ifneB (tgt := 20) d_F_move_11 (by decide) (fun c_11 => ?_) (fun c_11 => ?_)
    · skip
      obtain ⟨i, hi, rfl⟩ := wi_nat (k := 3) (by decide) c_4
      obtain ⟨si, hsi, esi⟩ := hSz i (by omega)
      obtain ⟨j, hj, rfl⟩ := wi_nat (k := 3) (by decide) c_11
      obtain ⟨sj, hsj, esj⟩ := hSz j (by omega)
      refine V.aload_n d_F_move_20 rfl ?_
      refine V.get d_F_move_21 f_F_54_F (co_s sc_ob) rfl ?_
      refine V.iload_n d_F_move_24 rfl ?_
      refine V.aald (b := 80 + 2 * i) d_F_move_25 (Or.inr rfl) (co_s sc_ss) (vp_in_nI (by omega) (by omega)) (by rw [icl (by omega)]; exact if_pos (by omega)) ?_
      refine V.astore d_F_move_26 (by decide) ?_
      refine V.aload_n d_F_move_28 rfl ?_
      refine V.get d_F_move_29 f_F_54_F (co_s sc_ob) rfl ?_
      refine V.iload_n d_F_move_32 rfl ?_
      refine V.aald (b := 80 + 2 * j) d_F_move_33 (Or.inr rfl) (co_s sc_ss) (vp_in_nI (by omega) (by omega)) (by rw [icl (by omega)]; exact if_pos (by omega)) ?_
      refine V.astore d_F_move_34 (by decide) ?_
      refine V.aload d_F_move_36 rfl ?_
      refine V.callV0 d_F_move_38 k_F_240_Sheet_isMissing_SheetV (co_s (sc_sh (sh_ds i (by omega)).1)) (Nat.le_of_ble_eq_true rfl) (by omega) (by omega) (c_Sheet_isMissing (sh_ds i (by omega)).1 ?_)
      refine V.ifneB (tgt := 52) d_F_move_41 (by decide) (fun c_41 => ?_) (fun c_41 => ?_)
      · skip
        refine V.aload_n d_F_move_52 rfl ?_
        refine V.iconst_ (nI 2) d_F_move_53 (by decide +kernel) ?_
        refine V.callV1 d_F_move_54 k_F_97_F_error_FV (co_s sc_ob) (Nat.le_of_ble_eq_true rfl) (by omega) (by omega) (c_F_error (by decide) ?_)
        refine V.iret d_F_move_57 rfl (by omega) (by omega) ?_
        exact hNo i j hi hj rfl rfl (Or.inl (of_decide_eq_true c_41))
      · skip
        refine V.aload d_F_move_44 rfl ?_
        refine V.callV0 d_F_move_46 k_F_240_Sheet_isMissing_SheetV (co_s (sc_sh (sh_ds j (by omega)).1)) (Nat.le_of_ble_eq_true rfl) (by omega) (by omega) (c_Sheet_isMissing (sh_ds j (by omega)).1 ?_)
        refine V.ifeqB (tgt := 58) d_F_move_49 (by decide) (fun c_49 => ?_) (fun c_49 => ?_)
        · skip
          refine V.aload d_F_move_58 rfl ?_
          refine V.get d_F_move_60 f_F_296_Sheet (co_s (sc_sh (sh_ds i (by omega)).1)) rfl ?_
          refine V.aload d_F_move_63 rfl ?_
          refine V.get d_F_move_65 f_F_296_Sheet (co_s (sc_sh (sh_ds j (by omega)).1)) rfl ?_
          refine V.icmp_eq (tgt := 77) d_F_move_68 (by decide) (fun c_68 => ?_) (fun c_68 => ?_)
          · skip
            refine V.aload d_F_move_77 rfl ?_
            refine V.iload_n d_F_move_79 rfl ?_
            refine V.iload d_F_move_80 rfl ?_
            refine V.callV2 d_F_move_82 k_F_299_Sheet_hasRun_SheetV (co_s (sc_sh (sh_ds i (by omega)).1)) (Nat.le_of_ble_eq_true rfl) (by omega) (by omega) (c_Sheet_hasRun (sh_ds i (by omega)).1 ?_)
            refine V.ifeqB (tgt := 100) d_F_move_85 (by decide) (fun c_85 => ?_) (fun c_85 => ?_)
            · skip
              refine V.aload_n d_F_move_100 rfl ?_
              refine V.iconst_ (nI 1) d_F_move_101 (by decide +kernel) ?_
              refine V.callV1 d_F_move_102 k_F_97_F_error_FV (co_s sc_ob) (Nat.le_of_ble_eq_true rfl) (by omega) (by omega) (c_F_error (by decide) ?_)
              refine V.iret d_F_move_105 rfl (by omega) (by omega) ?_
              exact hB i j si sj hi hj rfl rfl (of_decide_eq_false c_41) (of_decide_eq_false c_49) c_68 esi esj hsi hsj (by rw [← esi, ← esj]; simp only [c_85, Bool.and_false, Bool.false_and])
            · skip
              refine V.aload d_F_move_88 rfl ?_
              refine V.iload d_F_move_90 rfl ?_
              refine V.iload d_F_move_92 rfl ?_
              refine V.callV2 d_F_move_94 k_F_299_Sheet_hasRun_SheetV (co_s (sc_sh (sh_ds j (by omega)).1)) (Nat.le_of_ble_eq_true rfl) (by omega) (by omega) (c_Sheet_hasRun (sh_ds j (by omega)).1 ?_)
              refine V.ifneB (tgt := 106) d_F_move_97 (by decide) (fun c_97 => ?_) (fun c_97 => ?_)
              · skip
                rw [esi] at c_85
                rw [esj] at c_97
                obtain ⟨a, k, ea, ek, hak⟩ := hrnN hsi c_85
                obtain ⟨b, k2, eb, ek2, hbk⟩ := hrnN hsj c_97
                subst ea eb ek
                obtain rfl : k = k2 := (nI_eq (by omega) (by omega)).mp ek2
                refine V.aload d_F_move_106 rfl ?_
                refine V.get d_F_move_108 f_F_290_Sheet (co_s (sc_sh (sh_ds i (by omega)).1)) rfl ?_
                refine V.iload_n d_F_move_111 rfl ?_
                refine V.aload d_F_move_112 rfl ?_
                refine V.get d_F_move_114 f_F_290_Sheet (co_s (sc_sh (sh_ds j (by omega)).1)) rfl ?_
                refine V.iload d_F_move_117 rfl ?_
                refine V.iload d_F_move_119 rfl ?_
                refine V.copy d_F_move_121 (tm 1013 (by decide +kernel) rfl) (co_s (sc_ar (sh_ds i (by omega)).2)) (co_s (sc_ar (sh_ds j (by omega)).2)) (nI_pos (by omega)) (nI_pos (by omega)) (nI_pos (by omega)) (by rw [icl (by omega), icl (by omega)]; omega) (by rw [icl (by omega), icl (by omega)]; omega) (Nat.le_of_ble_eq_true rfl) ?_
                rw [icl (by omega), icl (by omega), icl (by omega)]
                refine V.eqH (co_uR (sh_ds j (by omega)).2) ?_
                refine V.iload d_F_move_124 rfl ?_
                refine V.iret d_F_move_126 rfl (by omega) (by omega) ?_
                exact hOk i j si sj a b k hi hj rfl rfl (of_decide_eq_false c_41) (of_decide_eq_false c_49) c_68 esi esj hsi hsj hak hbk rfl rfl rfl
              · skip
                refine V.aload_n d_F_move_100 rfl ?_
                refine V.iconst_ (nI 1) d_F_move_101 (by decide +kernel) ?_
                refine V.callV1 d_F_move_102 k_F_97_F_error_FV (co_s sc_ob) (Nat.le_of_ble_eq_true rfl) (by omega) (by omega) (c_F_error (by decide) ?_)
                refine V.iret d_F_move_105 rfl (by omega) (by omega) ?_
                exact hB i j si sj hi hj rfl rfl (of_decide_eq_false c_41) (of_decide_eq_false c_49) c_68 esi esj hsi hsj (by rw [← esi, ← esj]; simp only [c_97, Bool.and_false, Bool.false_and])
          · skip
            refine V.aload_n d_F_move_71 rfl ?_
            refine V.iconst_ (nI 5) d_F_move_72 (by decide +kernel) ?_
            refine V.callV1 d_F_move_73 k_F_97_F_error_FV (co_s sc_ob) (Nat.le_of_ble_eq_true rfl) (by omega) (by omega) (c_F_error (by decide) ?_)
            refine V.iret d_F_move_76 rfl (by omega) (by omega) ?_
            exact hKd i j hi hj rfl rfl (of_decide_eq_false c_41) (of_decide_eq_false c_49) c_68
        · skip
          refine V.aload_n d_F_move_52 rfl ?_
          refine V.iconst_ (nI 2) d_F_move_53 (by decide +kernel) ?_
          refine V.callV1 d_F_move_54 k_F_97_F_error_FV (co_s sc_ob) (Nat.le_of_ble_eq_true rfl) (by omega) (by omega) (c_F_error (by decide) ?_)
          refine V.iret d_F_move_57 rfl (by omega) (by omega) ?_
          exact hNo i j hi hj rfl rfl (Or.inr (of_decide_eq_true c_49))
    · skip
      refine V.aload_n d_F_move_14 rfl ?_
      refine V.iconst_ (nI 1) d_F_move_15 (by decide +kernel) ?_
      refine V.callV1 d_F_move_16 k_F_97_F_error_FV (co_s sc_ob) (Nat.le_of_ble_eq_true rfl) (by omega) (by omega) (c_F_error (by decide) ?_)
      refine V.iret d_F_move_19 rfl (by omega) (by omega) ?_
      exact hE (by simp only [c_4, c_11, Bool.and_false, Bool.false_and, Bool.and_true, Bool.true_and])
theorem rgt_in {f : Nat → Int32} {sz k : Nat} (hk : k < sz) (hs : sz ≤ 1000) : rgt f (nI sz) (nI k) = f k := by
  unfold rgt wh
  rw [decide_eq_true (nI_pos' (by omega)), decide_eq_true (nI_lt hk (by omega)), Bool.and_self, if_pos rfl, icl (by omega)]
abbrev M_F_talks : MD := (⟨"FelledByNames", "talks", "(I)I"⟩, prog_1_method_35_code, 5, (some .int), fun _ => True)
theorem d_F_talks_0 : decode prog_1_method_35_code 0 = .ok (.iload_n 1, 1) := by decide +kernel
theorem d_F_talks_1 : decode prog_1_method_35_code 1 = .ok (.invokestatic 233, 3) := by decide +kernel
theorem d_F_talks_4 : decode prog_1_method_35_code 4 = .ok (.ifCond .ne 9, 3) := by decide +kernel
theorem d_F_talks_13 : decode prog_1_method_35_code 13 = .ok (.aload_n 0, 1) := by decide +kernel
theorem d_F_talks_14 : decode prog_1_method_35_code 14 = .ok (.getfield 54, 3) := by decide +kernel
theorem d_F_talks_17 : decode prog_1_method_35_code 17 = .ok (.iload_n 1, 1) := by decide +kernel
theorem d_F_talks_18 : decode prog_1_method_35_code 18 = .ok (.aaload, 1) := by decide +kernel
theorem d_F_talks_19 : decode prog_1_method_35_code 19 = .ok (.astore_n 2, 1) := by decide +kernel
theorem d_F_talks_20 : decode prog_1_method_35_code 20 = .ok (.aload_n 2, 1) := by decide +kernel
theorem d_F_talks_21 : decode prog_1_method_35_code 21 = .ok (.invokevirtual 240, 3) := by decide +kernel
theorem d_F_talks_24 : decode prog_1_method_35_code 24 = .ok (.ifCond .eq 9, 3) := by decide +kernel
theorem d_F_talks_33 : decode prog_1_method_35_code 33 = .ok (.aload_n 2, 1) := by decide +kernel
theorem d_F_talks_34 : decode prog_1_method_35_code 34 = .ok (.getfield 236, 3) := by decide +kernel
theorem f_F_236_Sheet : fok "FelledByNames" 236 2 1 := ⟨R_Sheet, F_Sheet, 3, "FelledByNames$Sheet", rfl, i_Sheet, by decide, tm 52 (by decide +kernel) rfl, Or.inr (tm 48 (by decide +kernel) rfl), t_Sheet, t_Sheet_ok, n_Sheet⟩
theorem d_F_talks_37 : decode prog_1_method_35_code 37 = .ok (.bipush 6, 2) := by decide +kernel
theorem d_F_talks_39 : decode prog_1_method_35_code 39 = .ok (.invokestatic 255, 3) := by decide +kernel
theorem d_F_talks_42 : decode prog_1_method_35_code 42 = .ok (.istore_n 3, 1) := by decide +kernel
theorem d_F_talks_43 : decode prog_1_method_35_code 43 = .ok (.iconst 0, 1) := by decide +kernel
theorem d_F_talks_44 : decode prog_1_method_35_code 44 = .ok (.istore 4, 2) := by decide +kernel
theorem d_F_talks_46 : decode prog_1_method_35_code 46 = .ok (.iload 4, 2) := by decide +kernel
theorem d_F_talks_48 : decode prog_1_method_35_code 48 = .ok (.iload_n 3, 1) := by decide +kernel
theorem d_F_talks_49 : decode prog_1_method_35_code 49 = .ok (.if_icmp .ge 39, 3) := by decide +kernel
theorem d_F_talks_88 : decode prog_1_method_35_code 88 = .ok (.iload 4, 2) := by decide +kernel
theorem d_F_talks_90 : decode prog_1_method_35_code 90 = .ok (.ireturn, 1) := by decide +kernel
theorem d_F_talks_52 : decode prog_1_method_35_code 52 = .ok (.aload_n 2, 1) := by decide +kernel
theorem d_F_talks_53 : decode prog_1_method_35_code 53 = .ok (.iload 4, 2) := by decide +kernel
theorem d_F_talks_55 : decode prog_1_method_35_code 55 = .ok (.invokevirtual 237, 3) := by decide +kernel
theorem k_F_237_Row_get_SheetU : kU "FelledByNames" 237 2 "FelledByNames$Row" ⟨"FelledByNames$Sheet", "get", "(I)I"⟩ M_Row_get 1 := ⟨kB_Row_get, tm 836 (by decide +kernel) rfl, tm 837 (by decide +kernel) rfl, ⟨by decide, by decide⟩, tm 304 (by decide +kernel) rfl, ⟨prog_6_method_3_code, 2, (some .int), tm 308 (by decide +kernel) rfl⟩, by decide +kernel, tm 304 (by decide +kernel) rfl, _, rfl, tm 839 (by decide +kernel) rfl⟩
theorem d_F_talks_58 : decode prog_1_method_35_code 58 = .ok (.bipush 9, 2) := by decide +kernel
theorem d_F_talks_60 : decode prog_1_method_35_code 60 = .ok (.invokestatic 94, 3) := by decide +kernel
theorem d_F_talks_63 : decode prog_1_method_35_code 63 = .ok (.ifCond .eq 25, 3) := by decide +kernel
theorem d_F_talks_66 : decode prog_1_method_35_code 66 = .ok (.aload_n 0, 1) := by decide +kernel
theorem d_F_talks_67 : decode prog_1_method_35_code 67 = .ok (.getfield 39, 3) := by decide +kernel
theorem d_F_talks_70 : decode prog_1_method_35_code 70 = .ok (.getfield 108, 3) := by decide +kernel
theorem d_F_talks_73 : decode prog_1_method_35_code 73 = .ok (.iload 4, 2) := by decide +kernel
theorem d_F_talks_75 : decode prog_1_method_35_code 75 = .ok (.aload_n 2, 1) := by decide +kernel
theorem d_F_talks_76 : decode prog_1_method_35_code 76 = .ok (.iload 4, 2) := by decide +kernel
theorem d_F_talks_78 : decode prog_1_method_35_code 78 = .ok (.invokevirtual 237, 3) := by decide +kernel
theorem d_F_talks_81 : decode prog_1_method_35_code 81 = .ok (.iastore, 1) := by decide +kernel
theorem d_F_talks_82 : decode prog_1_method_35_code 82 = .ok (.iinc 4 1, 3) := by decide +kernel
theorem d_F_talks_85 : decode prog_1_method_35_code 85 = .ok (.goto (-39), 3) := by decide +kernel
theorem d_F_talks_27 : decode prog_1_method_35_code 27 = .ok (.aload_n 0, 1) := by decide +kernel
theorem d_F_talks_28 : decode prog_1_method_35_code 28 = .ok (.iconst 2, 1) := by decide +kernel
theorem d_F_talks_29 : decode prog_1_method_35_code 29 = .ok (.invokevirtual 97, 3) := by decide +kernel
theorem d_F_talks_32 : decode prog_1_method_35_code 32 = .ok (.ireturn, 1) := by decide +kernel
theorem d_F_talks_7 : decode prog_1_method_35_code 7 = .ok (.aload_n 0, 1) := by decide +kernel
theorem d_F_talks_8 : decode prog_1_method_35_code 8 = .ok (.iconst 1, 1) := by decide +kernel
theorem d_F_talks_9 : decode prog_1_method_35_code 9 = .ok (.invokevirtual 97, 3) := by decide +kernel
theorem d_F_talks_12 : decode prog_1_method_35_code 12 = .ok (.ireturn, 1) := by decide +kernel
set_option maxRecDepth 100000 in
theorem c_F_talks {x : Int32} {l : Launch} {d n : Nat} {R W Z : Nat → Nat → Int32} {T : Nat → Nat → Nat} {kn : Kn} {h0 : HP} {Q : QT} (hSz : ∀ i, i < 4 → ∃ k, k ≤ 40 ∧ Z (80 + 2 * i) 1 = nI k) (hT : TI T kn n) (hE : wi x (nI 0) (nI 3) = false → Q (some (.int (-1000000000 - nI 1))) n (co (uA R 54 (upd (R 54) 1 (R 54 1 + nI 1))) W Z T kn h0)) (hN : ∀ i, i ≤ 3 → x = nI i → Z (80 + 2 * i) 2 = 0 → Q (some (.int (-1000000000 - nI 2))) n (co (uA R 54 (upd (R 54) 2 (R 54 2 + nI 1))) W Z T kn h0)) (hOk : ∀ i sz k, i ≤ 3 → x = nI i → ¬ Z (80 + 2 * i) 2 = 0 → Z (80 + 2 * i) 1 = nI sz → sz ≤ 40 → k ≤ sz → k ≤ 6 → (∀ u, u < k → wi (R (80 + 2 * i + 1) u) (nI 0) (nI 9) = true) → (k = sz ∨ k = 6 ∨ (k < sz ∧ k < 6 ∧ wi (R (80 + 2 * i + 1) k) (nI 0) (nI 9) = false)) → Q (some (.int (nI k))) n (co R (uW W 0 (tkD (W 0) (R (80 + 2 * i + 1)) k)) Z T kn h0)) : Ct l M_F_talks (d + 2) 0 0 [.ref 0, .int x] n (co R W Z T kn h0) Q := by
  refine Ct.of (fun _ => trivial) (by decide) (Nat.le_of_ble_eq_true rfl) ?_
  refine V.iload_n d_F_talks_0 rfl ?_
  refine V.callS1 d_F_talks_1 k_F_233_F_isSheetS (Nat.le_of_ble_eq_true rfl) (by omega) (by omega) (c_F_isSheet ?_)
  refine V.ifneB (tgt := 13) d_F_talks_4 (by decide) (fun c_4 => ?_) (fun c_4 => ?_)
  · skip
    obtain ⟨i, hi, rfl⟩ := wi_nat (k := 3) (by decide) c_4
    obtain ⟨sz, hsz, esz⟩ := hSz i (by omega)
    refine V.aload_n d_F_talks_13 rfl ?_
    refine V.get d_F_talks_14 f_F_54_F (co_s sc_ob) rfl ?_
    refine V.iload_n d_F_talks_17 rfl ?_
    refine V.aald (b := 80 + 2 * i) d_F_talks_18 (Or.inr rfl) (co_s sc_ss) (vp_in_nI (by omega) (by omega)) (by rw [icl (by omega)]; exact if_pos (by omega)) ?_
    refine V.astore_n d_F_talks_19 (by decide) ?_
    refine V.aload_n d_F_talks_20 rfl ?_
    refine V.callV0 d_F_talks_21 k_F_240_Sheet_isMissing_SheetV (co_s (sc_sh (sh_ds i (by omega)).1)) (Nat.le_of_ble_eq_true rfl) (by omega) (by omega) (c_Sheet_isMissing (sh_ds i (by omega)).1 ?_)
    refine V.ifeqB (tgt := 33) d_F_talks_24 (by decide) (fun c_24 => ?_) (fun c_24 => ?_)
    · skip
      refine V.aload_n d_F_talks_33 rfl ?_
      refine V.get d_F_talks_34 f_F_236_Sheet (co_s (sc_sh (sh_ds i (by omega)).1)) rfl ?_
      refine V.top (y := nI sz) (esz) ?_
      refine V.bipush_ (nI 6) d_F_talks_37 (by decide +kernel) ?_
      refine V.mmin d_F_talks_39 (tm 725 (by decide +kernel) rfl) (Nat.le_of_ble_eq_true rfl) (by omega) (by omega) ?_
      refine V.top (y := nI (min sz 6)) (mi_min (by omega) (by decide)) ?_
      refine V.istore_n d_F_talks_42 (by decide) ?_
      refine V.iconst_ (nI 0) d_F_talks_43 (by decide +kernel) ?_
      refine V.istore d_F_talks_44 (by decide) ?_
      refine V.eqH (h' := co R (uW W 0 (tkD (W 0) (R (80 + 2 * i + 1)) 0)) Z T kn h0) (congrArg (fun X => co R X Z T kn h0) uW_id.symm) ?_
      refine V.lc (ls' := [(0, .ref 0), (2, .ref (80 + 2 * i)), (3, .int (nI (min sz 6))), (4, .int (nI 0))]) rfl ?_
      refine up_to (G := fun k => (∀ u, u < k → wi (R (80 + 2 * i + 1) u) (nI 0) (nI 9) = true) → V l M_F_talks (d + 2) 0 0 46 [(0, .ref 0), (2, .ref (80 + 2 * i)), (3, .int (nI (min sz 6))), (4, .int (nI k))] [] n (co R (uW W 0 (tkD (W 0) (R (80 + 2 * i + 1)) k)) Z T kn h0) 0 0 Q) (min sz 6) ?_ (fun k hk hn => ?_) 0 (by omega) (fun u hu => absurd hu (by omega))
      · skip
        intro hall
        refine V.iload d_F_talks_46 rfl ?_
        refine V.iload_n d_F_talks_48 rfl ?_
        refine V.geN (tgt := 88) d_F_talks_49 (by decide) (by omega) (by omega) (fun c_49 => ?_) (fun c_49 => ?_)
        · skip
          refine V.iload d_F_talks_88 rfl ?_
          refine V.iret d_F_talks_90 rfl (by omega) (by omega) ?_
          exact hOk i sz (min sz 6) hi rfl (of_decide_eq_false c_24) esz hsz (by omega) (by omega) hall (by omega)
        · skip
          exact absurd c_49 (by omega)
      · skip
        intro hall
        refine V.iload d_F_talks_46 rfl ?_
        refine V.iload_n d_F_talks_48 rfl ?_
        refine V.geN (tgt := 88) d_F_talks_49 (by decide) (by omega) (by omega) (fun c_49 => ?_) (fun c_49 => ?_)
        · skip
          exact absurd c_49 (by omega)
        · skip
          refine V.aload_n d_F_talks_52 rfl ?_
          refine V.iload d_F_talks_53 rfl ?_
          refine V.callU (vs := [_]) d_F_talks_55 k_F_237_Row_get_SheetU (co_s (sc_sh (sh_ds i (by omega)).1)) rfl rfl (Nat.le_of_ble_eq_true rfl) (by omega) (by omega) (c_Sheet_get (a := 80 + 2 * i) (sz := sz) (sh_ds i (by omega)).1 (sh_ds i (by omega)).2 esz hsz ?_)
          rw [rgt_in (by omega) (by omega)]
          refine V.bipush_ (nI 9) d_F_talks_58 (by decide +kernel) ?_
          refine V.callS2 d_F_talks_60 k_F_94_F_withinS (Nat.le_of_ble_eq_true rfl) (by omega) (by omega) (c_F_within ?_)
          refine V.ifeqB (tgt := 88) d_F_talks_63 (by decide) (fun c_63 => ?_) (fun c_63 => ?_)
          · skip
            refine V.iload d_F_talks_88 rfl ?_
            refine V.iret d_F_talks_90 rfl (by omega) (by omega) ?_
            exact hOk i sz k hi rfl (of_decide_eq_false c_24) esz hsz (by omega) (by omega) hall (Or.inr (Or.inr ⟨by omega, by omega, c_63⟩))
          · skip
            refine V.aload_n d_F_talks_66 rfl ?_
            refine V.get d_F_talks_67 f_F_39_F (co_s sc_ob) rfl ?_
            refine V.get d_F_talks_70 f_F_108_World (co_s (sc_wd (wb_ds 0 (by decide)).1)) rfl ?_
            refine V.iload d_F_talks_73 rfl ?_
            refine V.aload_n d_F_talks_75 rfl ?_
            refine V.iload d_F_talks_76 rfl ?_
            refine V.callU (vs := [_]) d_F_talks_78 k_F_237_Row_get_SheetU (co_s (sc_sh (sh_ds i (by omega)).1)) rfl rfl (Nat.le_of_ble_eq_true rfl) (by omega) (by omega) (c_Sheet_get (a := 80 + 2 * i) (sz := sz) (sh_ds i (by omega)).1 (sh_ds i (by omega)).2 esz hsz ?_)
            rw [rgt_in (by omega) (by omega)]
            refine V.iastN d_F_talks_81 (co_s (sc_ta (wb_ds 0 (by decide)).2.2.1)) (by omega) (by omega) ?_
            refine V.eqH (co_uta (w := 0) hT (by decide) (by omega)) ?_
            refine V.incN d_F_talks_82 rfl (by decide) ?_
            refine V.goto (tgt := 46) d_F_talks_85 (by decide) ?_
            rw [uW_s, uW_uu]
            have e1 : upd (tkD (W 0) (R (80 + 2 * i + 1)) k) (44 + k) (R (80 + 2 * i + 1) k) = tkD (W 0) (R (80 + 2 * i + 1)) (k + 1) := rfl
            rw [e1]
            exact V.lc rfl (hn (fun u hu => by
              by_cases e : u = k
              · subst e; exact c_63
              · exact hall u (by omega)))
    · skip
      refine V.aload_n d_F_talks_27 rfl ?_
      refine V.iconst_ (nI 2) d_F_talks_28 (by decide +kernel) ?_
      refine V.callV1 d_F_talks_29 k_F_97_F_error_FV (co_s sc_ob) (Nat.le_of_ble_eq_true rfl) (by omega) (by omega) (c_F_error (by decide) ?_)
      refine V.iret d_F_talks_32 rfl (by omega) (by omega) ?_
      exact hN i hi rfl (of_decide_eq_true c_24)
  · skip
    refine V.aload_n d_F_talks_7 rfl ?_
    refine V.iconst_ (nI 1) d_F_talks_8 (by decide +kernel) ?_
    refine V.callV1 d_F_talks_9 k_F_97_F_error_FV (co_s sc_ob) (Nat.le_of_ble_eq_true rfl) (by omega) (by omega) (c_F_error (by decide) ?_)
    refine V.iret d_F_talks_12 rfl (by omega) (by omega) ?_
    exact hE c_4
abbrev M_F_judge : MD := (⟨"FelledByNames", "judge", "(I)I"⟩, prog_1_method_36_code, 5, (some .int), fun _ => True)
theorem d_F_judge_0 : decode prog_1_method_36_code 0 = .ok (.iload_n 1, 1) := by decide +kernel
theorem d_F_judge_1 : decode prog_1_method_36_code 1 = .ok (.invokestatic 233, 3) := by decide +kernel
theorem d_F_judge_4 : decode prog_1_method_36_code 4 = .ok (.ifCond .ne 9, 3) := by decide +kernel
theorem d_F_judge_13 : decode prog_1_method_36_code 13 = .ok (.aload_n 0, 1) := by decide +kernel
theorem d_F_judge_14 : decode prog_1_method_36_code 14 = .ok (.getfield 54, 3) := by decide +kernel
theorem d_F_judge_17 : decode prog_1_method_36_code 17 = .ok (.iload_n 1, 1) := by decide +kernel
theorem d_F_judge_18 : decode prog_1_method_36_code 18 = .ok (.aaload, 1) := by decide +kernel
theorem d_F_judge_19 : decode prog_1_method_36_code 19 = .ok (.astore_n 2, 1) := by decide +kernel
theorem d_F_judge_20 : decode prog_1_method_36_code 20 = .ok (.aload_n 2, 1) := by decide +kernel
theorem d_F_judge_21 : decode prog_1_method_36_code 21 = .ok (.invokevirtual 240, 3) := by decide +kernel
theorem d_F_judge_24 : decode prog_1_method_36_code 24 = .ok (.ifCond .eq 9, 3) := by decide +kernel
theorem d_F_judge_33 : decode prog_1_method_36_code 33 = .ok (.aload_n 2, 1) := by decide +kernel
theorem d_F_judge_34 : decode prog_1_method_36_code 34 = .ok (.getfield 236, 3) := by decide +kernel
theorem d_F_judge_37 : decode prog_1_method_36_code 37 = .ok (.aload_n 0, 1) := by decide +kernel
theorem d_F_judge_38 : decode prog_1_method_36_code 38 = .ok (.getfield 39, 3) := by decide +kernel
theorem d_F_judge_41 : decode prog_1_method_36_code 41 = .ok (.getfield 121, 3) := by decide +kernel
theorem d_F_judge_44 : decode prog_1_method_36_code 44 = .ok (.invokestatic 255, 3) := by decide +kernel
theorem d_F_judge_47 : decode prog_1_method_36_code 47 = .ok (.istore_n 3, 1) := by decide +kernel
theorem d_F_judge_48 : decode prog_1_method_36_code 48 = .ok (.iconst 0, 1) := by decide +kernel
theorem d_F_judge_49 : decode prog_1_method_36_code 49 = .ok (.istore 4, 2) := by decide +kernel
theorem d_F_judge_51 : decode prog_1_method_36_code 51 = .ok (.iload 4, 2) := by decide +kernel
theorem d_F_judge_53 : decode prog_1_method_36_code 53 = .ok (.iload_n 3, 1) := by decide +kernel
theorem d_F_judge_54 : decode prog_1_method_36_code 54 = .ok (.if_icmp .ge 34, 3) := by decide +kernel
theorem d_F_judge_88 : decode prog_1_method_36_code 88 = .ok (.aload_n 2, 1) := by decide +kernel
theorem d_F_judge_89 : decode prog_1_method_36_code 89 = .ok (.getfield 236, 3) := by decide +kernel
theorem d_F_judge_92 : decode prog_1_method_36_code 92 = .ok (.aload_n 0, 1) := by decide +kernel
theorem d_F_judge_93 : decode prog_1_method_36_code 93 = .ok (.getfield 39, 3) := by decide +kernel
theorem d_F_judge_96 : decode prog_1_method_36_code 96 = .ok (.getfield 121, 3) := by decide +kernel
theorem d_F_judge_99 : decode prog_1_method_36_code 99 = .ok (.if_icmp .ne 7, 3) := by decide +kernel
theorem d_F_judge_106 : decode prog_1_method_36_code 106 = .ok (.iload_n 3, 1) := by decide +kernel
theorem d_F_judge_107 : decode prog_1_method_36_code 107 = .ok (.ireturn, 1) := by decide +kernel
theorem d_F_judge_102 : decode prog_1_method_36_code 102 = .ok (.iconst (-1), 1) := by decide +kernel
theorem d_F_judge_103 : decode prog_1_method_36_code 103 = .ok (.goto 4, 3) := by decide +kernel
theorem d_F_judge_57 : decode prog_1_method_36_code 57 = .ok (.aload_n 2, 1) := by decide +kernel
theorem d_F_judge_58 : decode prog_1_method_36_code 58 = .ok (.iload 4, 2) := by decide +kernel
theorem d_F_judge_60 : decode prog_1_method_36_code 60 = .ok (.invokevirtual 237, 3) := by decide +kernel
theorem d_F_judge_63 : decode prog_1_method_36_code 63 = .ok (.aload_n 0, 1) := by decide +kernel
theorem d_F_judge_64 : decode prog_1_method_36_code 64 = .ok (.getfield 39, 3) := by decide +kernel
theorem d_F_judge_67 : decode prog_1_method_36_code 67 = .ok (.getfield 145, 3) := by decide +kernel
theorem d_F_judge_70 : decode prog_1_method_36_code 70 = .ok (.iload 4, 2) := by decide +kernel
theorem d_F_judge_72 : decode prog_1_method_36_code 72 = .ok (.aaload, 1) := by decide +kernel
theorem d_F_judge_73 : decode prog_1_method_36_code 73 = .ok (.getfield 142, 3) := by decide +kernel
theorem d_F_judge_76 : decode prog_1_method_36_code 76 = .ok (.if_icmp .eq 6, 3) := by decide +kernel
theorem d_F_judge_82 : decode prog_1_method_36_code 82 = .ok (.iinc 4 1, 3) := by decide +kernel
theorem d_F_judge_85 : decode prog_1_method_36_code 85 = .ok (.goto (-34), 3) := by decide +kernel
theorem d_F_judge_79 : decode prog_1_method_36_code 79 = .ok (.iload 4, 2) := by decide +kernel
theorem d_F_judge_81 : decode prog_1_method_36_code 81 = .ok (.ireturn, 1) := by decide +kernel
theorem d_F_judge_27 : decode prog_1_method_36_code 27 = .ok (.aload_n 0, 1) := by decide +kernel
theorem d_F_judge_28 : decode prog_1_method_36_code 28 = .ok (.iconst 2, 1) := by decide +kernel
theorem d_F_judge_29 : decode prog_1_method_36_code 29 = .ok (.invokevirtual 97, 3) := by decide +kernel
theorem d_F_judge_32 : decode prog_1_method_36_code 32 = .ok (.ireturn, 1) := by decide +kernel
theorem d_F_judge_7 : decode prog_1_method_36_code 7 = .ok (.aload_n 0, 1) := by decide +kernel
theorem d_F_judge_8 : decode prog_1_method_36_code 8 = .ok (.iconst 1, 1) := by decide +kernel
theorem d_F_judge_9 : decode prog_1_method_36_code 9 = .ok (.invokevirtual 97, 3) := by decide +kernel
theorem d_F_judge_12 : decode prog_1_method_36_code 12 = .ok (.ireturn, 1) := by decide +kernel
set_option maxRecDepth 100000 in
theorem c_F_judge {N : Nat} {x : Int32} {l : Launch} {d n : Nat} {R W Z : Nat → Nat → Int32} {T : Nat → Nat → Nat} {kn : Kn} {h0 : HP} {Q : QT} (hN8 : N ≤ 8) (e0 : W 0 0 = nI N) (hT : TI T kn n) (hB0 : WB (W 0)) (hSz : ∀ i, i < 4 → ∃ k, k ≤ 40 ∧ Z (80 + 2 * i) 1 = nI k) (hE : wi x (nI 0) (nI 3) = false → Q (some (.int (-1000000000 - nI 1))) n (co (uA R 54 (upd (R 54) 1 (R 54 1 + nI 1))) W Z T kn h0)) (hN : ∀ i, i ≤ 3 → x = nI i → Z (80 + 2 * i) 2 = 0 → Q (some (.int (-1000000000 - nI 2))) n (co (uA R 54 (upd (R 54) 2 (R 54 2 + nI 1))) W Z T kn h0)) (hOk : ∀ i sz k, i ≤ 3 → x = nI i → ¬ Z (80 + 2 * i) 2 = 0 → Z (80 + 2 * i) 1 = nI sz → sz ≤ 40 → k ≤ sz → k ≤ N → (∀ u, u < k → R (80 + 2 * i + 1) u = W 0 (50 + 7 * u + 5)) → (k = sz ∨ k = N ∨ (k < sz ∧ k < N ∧ ¬ R (80 + 2 * i + 1) k = W 0 (50 + 7 * k + 5))) → Q (some (.int (if k = sz ∧ k = N then -1 else nI k))) n (co R W Z T kn h0)) : Ct l M_F_judge (d + 2) 0 0 [.ref 0, .int x] n (co R W Z T kn h0) Q := by
  refine Ct.of (fun _ => trivial) (by decide) (Nat.le_of_ble_eq_true rfl) ?_
  refine V.iload_n d_F_judge_0 rfl ?_
  refine V.callS1 d_F_judge_1 k_F_233_F_isSheetS (Nat.le_of_ble_eq_true rfl) (by omega) (by omega) (c_F_isSheet ?_)
  refine V.ifneB (tgt := 13) d_F_judge_4 (by decide) (fun c_4 => ?_) (fun c_4 => ?_)
  · skip
    obtain ⟨i, hi, rfl⟩ := wi_nat (k := 3) (by decide) c_4
    obtain ⟨sz, hsz, esz⟩ := hSz i (by omega)
    refine V.aload_n d_F_judge_13 rfl ?_
    refine V.get d_F_judge_14 f_F_54_F (co_s sc_ob) rfl ?_
    refine V.iload_n d_F_judge_17 rfl ?_
    refine V.aald (b := 80 + 2 * i) d_F_judge_18 (Or.inr rfl) (co_s sc_ss) (vp_in_nI (by omega) (by omega)) (by rw [icl (by omega)]; exact if_pos (by omega)) ?_
    refine V.astore_n d_F_judge_19 (by decide) ?_
    refine V.aload_n d_F_judge_20 rfl ?_
    refine V.callV0 d_F_judge_21 k_F_240_Sheet_isMissing_SheetV (co_s (sc_sh (sh_ds i (by omega)).1)) (Nat.le_of_ble_eq_true rfl) (by omega) (by omega) (c_Sheet_isMissing (sh_ds i (by omega)).1 ?_)
    refine V.ifeqB (tgt := 33) d_F_judge_24 (by decide) (fun c_24 => ?_) (fun c_24 => ?_)
    · skip
      refine V.aload_n d_F_judge_33 rfl ?_
      refine V.get d_F_judge_34 f_F_236_Sheet (co_s (sc_sh (sh_ds i (by omega)).1)) rfl ?_
      refine V.top (y := nI sz) (esz) ?_
      refine V.aload_n d_F_judge_37 rfl ?_
      refine V.get d_F_judge_38 f_F_39_F (co_s sc_ob) rfl ?_
      refine V.get d_F_judge_41 f_F_121_World (co_s (sc_wd (wb_ds 0 (by decide)).1)) rfl ?_
      refine V.top (y := nI N) (e0) ?_
      refine V.mmin d_F_judge_44 (tm 725 (by decide +kernel) rfl) (Nat.le_of_ble_eq_true rfl) (by omega) (by omega) ?_
      refine V.top (y := nI (min sz N)) (mi_min (by omega) (by omega)) ?_
      refine V.istore_n d_F_judge_47 (by decide) ?_
      refine V.iconst_ (nI 0) d_F_judge_48 (by decide +kernel) ?_
      refine V.istore d_F_judge_49 (by decide) ?_
      refine V.lc (ls' := [(0, .ref 0), (2, .ref (80 + 2 * i)), (3, .int (nI (min sz N))), (4, .int (nI 0))]) rfl ?_
      refine up_to (G := fun k => (∀ u, u < k → R (80 + 2 * i + 1) u = W 0 (50 + 7 * u + 5)) → V l M_F_judge (d + 2) 0 0 51 [(0, .ref 0), (2, .ref (80 + 2 * i)), (3, .int (nI (min sz N))), (4, .int (nI k))] [] n (co R W Z T kn h0) 0 0 Q) (min sz N) ?_ (fun k hk hn => ?_) 0 (by omega) (fun u hu => absurd hu (by omega))
      · skip
        intro hall
        refine V.iload d_F_judge_51 rfl ?_
        refine V.iload_n d_F_judge_53 rfl ?_
        refine V.geN (tgt := 88) d_F_judge_54 (by decide) (by omega) (by omega) (fun c_54 => ?_) (fun c_54 => ?_)
        · skip
          refine V.aload_n d_F_judge_88 rfl ?_
          refine V.get d_F_judge_89 f_F_236_Sheet (co_s (sc_sh (sh_ds i (by omega)).1)) rfl ?_
          refine V.top (y := nI sz) (esz) ?_
          refine V.aload_n d_F_judge_92 rfl ?_
          refine V.get d_F_judge_93 f_F_39_F (co_s sc_ob) rfl ?_
          refine V.get d_F_judge_96 f_F_121_World (co_s (sc_wd (wb_ds 0 (by decide)).1)) rfl ?_
          refine V.top (y := nI N) (e0) ?_
          refine V.neN (tgt := 106) d_F_judge_99 (by decide) (by omega) (by omega) (fun c_99 => ?_) (fun c_99 => ?_)
          · skip
            refine V.iload_n d_F_judge_106 rfl ?_
            refine V.iret d_F_judge_107 rfl (by omega) (by omega) ?_
            have h := hOk i sz (min sz N) hi rfl (of_decide_eq_false c_24) esz hsz (by omega) (by omega) hall (by omega)
            first
            | (rw [if_pos (show min sz N = sz ∧ min sz N = N by omega)] at h; exact h)
            | (rw [if_neg (show ¬ (min sz N = sz ∧ min sz N = N) by omega)] at h; exact h)
          · skip
            refine V.iconst_ (-1) d_F_judge_102 (by decide +kernel) ?_
            refine V.goto (tgt := 107) d_F_judge_103 (by decide) ?_
            refine V.iret d_F_judge_107 rfl (by omega) (by omega) ?_
            have h := hOk i sz (min sz N) hi rfl (of_decide_eq_false c_24) esz hsz (by omega) (by omega) hall (by omega)
            first
            | (rw [if_pos (show min sz N = sz ∧ min sz N = N by omega)] at h; exact h)
            | (rw [if_neg (show ¬ (min sz N = sz ∧ min sz N = N) by omega)] at h; exact h)
        · skip
          exact absurd c_54 (by omega)
      · skip
        intro hall
        have hk8 : k < 8 := by omega
        refine V.iload d_F_judge_51 rfl ?_
        refine V.iload_n d_F_judge_53 rfl ?_
        refine V.geN (tgt := 88) d_F_judge_54 (by decide) (by omega) (by omega) (fun c_54 => ?_) (fun c_54 => ?_)
        · skip
          exact absurd c_54 (by omega)
        · skip
          refine V.aload_n d_F_judge_57 rfl ?_
          refine V.iload d_F_judge_58 rfl ?_
          refine V.callU (vs := [_]) d_F_judge_60 k_F_237_Row_get_SheetU (co_s (sc_sh (sh_ds i (by omega)).1)) rfl rfl (Nat.le_of_ble_eq_true rfl) (by omega) (by omega) (c_Sheet_get (a := 80 + 2 * i) (sz := sz) (sh_ds i (by omega)).1 (sh_ds i (by omega)).2 esz hsz ?_)
          rw [rgt_in (by omega) (by omega)]
          refine V.aload_n d_F_judge_63 rfl ?_
          refine V.get d_F_judge_64 f_F_39_F (co_s sc_ob) rfl ?_
          refine V.get d_F_judge_67 f_F_145_World (co_s (sc_wd (wb_ds 0 (by decide)).1)) rfl ?_
          refine V.iload d_F_judge_70 rfl ?_
          refine V.aald d_F_judge_72 (Or.inl rfl) (co_s (sc_tr (wb_ds 0 (by decide)).2.2.2.1)) (vp_in_nI (by omega) (by omega)) (by rw [icl (by omega)]; exact if_pos (by omega)) ?_
          refine V.get d_F_judge_73 (ft_F_142 _ (hB0.kd hk8)) (co_t hT (by decide) hk8) rfl ?_
          refine V.icmp_eq (tgt := 82) d_F_judge_76 (by decide) (fun c_76 => ?_) (fun c_76 => ?_)
          · skip
            refine V.incN d_F_judge_82 rfl (by decide) ?_
            refine V.goto (tgt := 51) d_F_judge_85 (by decide) ?_
            exact V.lc rfl (hn (fun u hu => by
              by_cases e : u = k
              · subst e; exact c_76
              · exact hall u (by omega)))
          · skip
            refine V.iload d_F_judge_79 rfl ?_
            refine V.iret d_F_judge_81 rfl (by omega) (by omega) ?_
            have h := hOk i sz k hi rfl (of_decide_eq_false c_24) esz hsz (by omega) (by omega) hall (Or.inr (Or.inr ⟨by omega, by omega, c_76⟩))
            rw [if_neg (by omega)] at h
            exact h
    · skip
      refine V.aload_n d_F_judge_27 rfl ?_
      refine V.iconst_ (nI 2) d_F_judge_28 (by decide +kernel) ?_
      refine V.callV1 d_F_judge_29 k_F_97_F_error_FV (co_s sc_ob) (Nat.le_of_ble_eq_true rfl) (by omega) (by omega) (c_F_error (by decide) ?_)
      refine V.iret d_F_judge_32 rfl (by omega) (by omega) ?_
      exact hN i hi rfl (of_decide_eq_true c_24)
  · skip
    refine V.aload_n d_F_judge_7 rfl ?_
    refine V.iconst_ (nI 1) d_F_judge_8 (by decide +kernel) ?_
    refine V.callV1 d_F_judge_9 k_F_97_F_error_FV (co_s sc_ob) (Nat.le_of_ble_eq_true rfl) (by omega) (by omega) (c_F_error (by decide) ?_)
    refine V.iret d_F_judge_12 rfl (by omega) (by omega) ?_
    exact hE c_4
abbrev M_F_image : MD := (⟨"FelledByNames", "image", "()I"⟩, prog_1_method_37_code, 1, (some .int), fun _ => True)
theorem d_F_image_0 : decode prog_1_method_37_code 0 = .ok (.aload_n 0, 1) := by decide +kernel
theorem d_F_image_1 : decode prog_1_method_37_code 1 = .ok (.getfield 62, 3) := by decide +kernel
theorem f_F_62_F : fok "FelledByNames" 62 0 9 := ⟨R_F, F_F, 15, "FelledByNames", rfl, i_F, by decide, tm 433 (by decide +kernel) rfl, Or.inl rfl, t_F, t_F_ok, n_F⟩
theorem d_F_image_4 : decode prog_1_method_37_code 4 = .ok (.aload_n 0, 1) := by decide +kernel
theorem d_F_image_5 : decode prog_1_method_37_code 5 = .ok (.getfield 39, 3) := by decide +kernel
theorem d_F_image_8 : decode prog_1_method_37_code 8 = .ok (.invokevirtual 308, 3) := by decide +kernel
theorem k_F_308_World_takeFrom_WorldV : kV "FelledByNames" 308 4 M_World_takeFrom 1 := ⟨kB_World_takeFrom, tm 1026 (by decide +kernel) rfl, tm 783 (by decide +kernel) rfl, tm 784 (by decide +kernel) rfl, _, rfl, rfl⟩
theorem d_F_image_11 : decode prog_1_method_37_code 11 = .ok (.aload_n 0, 1) := by decide +kernel
theorem d_F_image_12 : decode prog_1_method_37_code 12 = .ok (.getfield 65, 3) := by decide +kernel
theorem f_F_65_F : fok "FelledByNames" 65 0 10 := ⟨R_F, F_F, 15, "FelledByNames", rfl, i_F, by decide, tm 434 (by decide +kernel) rfl, Or.inl rfl, t_F, t_F_ok, n_F⟩
theorem d_F_image_15 : decode prog_1_method_37_code 15 = .ok (.aload_n 0, 1) := by decide +kernel
theorem d_F_image_16 : decode prog_1_method_37_code 16 = .ok (.getfield 14, 3) := by decide +kernel
theorem d_F_image_19 : decode prog_1_method_37_code 19 = .ok (.invokevirtual 310, 3) := by decide +kernel
theorem k_F_310_Row_takeFrom_RowV : kV "FelledByNames" 310 1 M_Row_takeFrom 1 := ⟨kB_Row_takeFrom, tm 1027 (by decide +kernel) rfl, tm 395 (by decide +kernel) rfl, tm 396 (by decide +kernel) rfl, _, rfl, rfl⟩
theorem d_F_image_22 : decode prog_1_method_37_code 22 = .ok (.aload_n 0, 1) := by decide +kernel
theorem d_F_image_23 : decode prog_1_method_37_code 23 = .ok (.getfield 68, 3) := by decide +kernel
theorem f_F_68_F : fok "FelledByNames" 68 0 11 := ⟨R_F, F_F, 15, "FelledByNames", rfl, i_F, by decide, tm 435 (by decide +kernel) rfl, Or.inl rfl, t_F, t_F_ok, n_F⟩
theorem d_F_image_26 : decode prog_1_method_37_code 26 = .ok (.aload_n 0, 1) := by decide +kernel
theorem d_F_image_27 : decode prog_1_method_37_code 27 = .ok (.getfield 46, 3) := by decide +kernel
theorem d_F_image_30 : decode prog_1_method_37_code 30 = .ok (.invokevirtual 310, 3) := by decide +kernel
theorem d_F_image_33 : decode prog_1_method_37_code 33 = .ok (.aload_n 0, 1) := by decide +kernel
theorem d_F_image_34 : decode prog_1_method_37_code 34 = .ok (.getfield 71, 3) := by decide +kernel
theorem f_F_71_F : fok "FelledByNames" 71 0 12 := ⟨R_F, F_F, 15, "FelledByNames", rfl, i_F, by decide, tm 436 (by decide +kernel) rfl, Or.inl rfl, t_F, t_F_ok, n_F⟩
theorem d_F_image_37 : decode prog_1_method_37_code 37 = .ok (.aload_n 0, 1) := by decide +kernel
theorem d_F_image_38 : decode prog_1_method_37_code 38 = .ok (.getfield 25, 3) := by decide +kernel
theorem d_F_image_41 : decode prog_1_method_37_code 41 = .ok (.getfield 313, 3) := by decide +kernel
theorem f_F_313_Text : fok "FelledByNames" 313 3 0 := ⟨R_Text, F_Text, 11, "FelledByNames$Text", rfl, i_Text, by decide, tm 69 (by decide +kernel) rfl, Or.inl rfl, t_Text, t_Text_ok, n_Text⟩
theorem d_F_image_44 : decode prog_1_method_37_code 44 = .ok (.invokevirtual 310, 3) := by decide +kernel
theorem d_F_image_47 : decode prog_1_method_37_code 47 = .ok (.aload_n 0, 1) := by decide +kernel
theorem d_F_image_48 : decode prog_1_method_37_code 48 = .ok (.getfield 74, 3) := by decide +kernel
theorem f_F_74_F : fok "FelledByNames" 74 0 13 := ⟨R_F, F_F, 15, "FelledByNames", rfl, i_F, by decide, tm 437 (by decide +kernel) rfl, Or.inl rfl, t_F, t_F_ok, n_F⟩
theorem d_F_image_51 : decode prog_1_method_37_code 51 = .ok (.aload_n 0, 1) := by decide +kernel
theorem d_F_image_52 : decode prog_1_method_37_code 52 = .ok (.getfield 31, 3) := by decide +kernel
theorem d_F_image_55 : decode prog_1_method_37_code 55 = .ok (.getfield 313, 3) := by decide +kernel
theorem d_F_image_58 : decode prog_1_method_37_code 58 = .ok (.invokevirtual 310, 3) := by decide +kernel
theorem d_F_image_61 : decode prog_1_method_37_code 61 = .ok (.aload_n 0, 1) := by decide +kernel
theorem d_F_image_62 : decode prog_1_method_37_code 62 = .ok (.dup, 1) := by decide +kernel
theorem d_F_image_63 : decode prog_1_method_37_code 63 = .ok (.getfield 77, 3) := by decide +kernel
theorem f_F_77_F : fok "FelledByNames" 77 0 14 := ⟨R_F, F_F, 15, "FelledByNames", rfl, i_F, by decide, tm 438 (by decide +kernel) rfl, Or.inl rfl, t_F, t_F_ok, n_F⟩
theorem d_F_image_66 : decode prog_1_method_37_code 66 = .ok (.iconst 1, 1) := by decide +kernel
theorem d_F_image_67 : decode prog_1_method_37_code 67 = .ok (.iadd, 1) := by decide +kernel
theorem d_F_image_68 : decode prog_1_method_37_code 68 = .ok (.putfield 77, 3) := by decide +kernel
theorem fp_F_14 : fpk 0 14 (.int) := ⟨_, _, _, rfl, rfl, by decide +kernel⟩
theorem d_F_image_71 : decode prog_1_method_37_code 71 = .ok (.aload_n 0, 1) := by decide +kernel
theorem d_F_image_72 : decode prog_1_method_37_code 72 = .ok (.getfield 77, 3) := by decide +kernel
theorem d_F_image_75 : decode prog_1_method_37_code 75 = .ok (.ireturn, 1) := by decide +kernel
set_option maxRecDepth 100000 in
theorem c_F_image {tp wt l0 l1 : Nat} {l : Launch} {d n : Nat} {R W Z : Nat → Nat → Int32} {T : Nat → Nat → Nat} {kn : Kn} {h0 : HP} {Q : QT} (hT : TI T kn n) (hB0 : WB (W 0)) (hB2 : WB (W 2)) (hh0 : ∀ a, ¬ (88 ≤ a ∧ a < 104) → h0 a = none) (h1 : tp ≤ 50) (z1 : Z 1 1 = nI tp) (h2 : wt ≤ 20) (z2 : Z 49 1 = nI wt) (h3 : l0 ≤ 50) (z3 : Z 4 1 = nI l0) (h4 : l1 ≤ 50) (z4 : Z 10 1 = nI l1) (hQ : ∀ (R1 Z1 : Nat → Nat → Int32) (T1 : Nat → Nat → Nat) (n1 : Nat), TI T1 kn n1 → n ≤ n1 → (∀ a, a ≠ 73 → a ≠ 75 → a ≠ 77 → a ≠ 79 → R1 a = R a) → (∀ j, j < tp → R1 73 j = R 2 j) → (∀ j, j < wt → R1 75 j = R 50 j) → (∀ j, j < l0 → R1 77 j = R 5 j) → (∀ j, j < l1 → R1 79 j = R 11 j) → Z1 72 1 = nI tp → Z1 74 1 = nI wt → Z1 76 1 = nI l0 → Z1 78 1 = nI l1 → Z1 0 14 = Z 0 14 + nI 1 → (∀ b j, b ≠ 72 → b ≠ 74 → b ≠ 76 → b ≠ 78 → b ≠ 0 → Z1 b j = Z b j) → Q (some (.int (Z 0 14 + nI 1))) n1 (co R1 (uW W 2 (cpW (W 2) (W 0))) Z1 T1 kn h0)) : Ct l M_F_image (d + 6) 8 64 [.ref 0] n (co R W Z T kn h0) Q := by
  refine Ct.of (fun _ => trivial) (by decide) (Nat.le_of_ble_eq_true rfl) ?_
  refine V.aload_n d_F_image_0 rfl ?_
  refine V.get d_F_image_1 f_F_62_F (co_s sc_ob) rfl ?_
  refine V.aload_n d_F_image_4 rfl ?_
  refine V.get d_F_image_5 f_F_39_F (co_s sc_ob) rfl ?_
  refine V.callV1 d_F_image_8 k_F_308_World_takeFrom_WorldV (co_s (sc_wd (wb_ds 2 (by decide)).1)) (Nat.le_of_ble_eq_true rfl) (by omega) (by omega) (c_World_takeFrom (w := 2) (v := 0) (mc := 8) (ms := 64) (by decide) (by decide) (by decide) hT hB2 hB0 hh0 (Or.inl ⟨Nat.le_refl _, Nat.le_refl _⟩) (fun Ta na hTa hna hTu => ?_))
  refine V.aload_n d_F_image_11 rfl ?_
  refine V.get d_F_image_12 f_F_65_F (co_s sc_ob) rfl ?_
  refine V.aload_n d_F_image_15 rfl ?_
  refine V.get d_F_image_16 f_F_14_F (co_s sc_ob) rfl ?_
  refine V.callV1 d_F_image_19 k_F_310_Row_takeFrom_RowV (co_s (sc_rw rfl)) (Nat.le_of_ble_eq_true rfl) (by omega) (by omega) (c_Row_takeFrom (a := 72) (b := 1) (N := 50) (N2 := 50) (sz := tp) rfl rfl rfl rfl (by decide) (by repeat (first | exact z1 | rw [uZ_n (by decide)])) h1 h1 (by decide) (by decide) ?_)
  refine V.aload_n d_F_image_22 rfl ?_
  refine V.get d_F_image_23 f_F_68_F (co_s sc_ob) rfl ?_
  refine V.aload_n d_F_image_26 rfl ?_
  refine V.get d_F_image_27 f_F_46_F (co_s sc_ob) rfl ?_
  refine V.callV1 d_F_image_30 k_F_310_Row_takeFrom_RowV (co_s (sc_rw rfl)) (Nat.le_of_ble_eq_true rfl) (by omega) (by omega) (c_Row_takeFrom (a := 74) (b := 49) (N := 20) (N2 := 20) (sz := wt) rfl rfl rfl rfl (by decide) (by repeat (first | exact z2 | rw [uZ_n (by decide)])) h2 h2 (by decide) (by decide) ?_)
  refine V.aload_n d_F_image_33 rfl ?_
  refine V.get d_F_image_34 f_F_71_F (co_s sc_ob) rfl ?_
  refine V.aload_n d_F_image_37 rfl ?_
  refine V.get d_F_image_38 f_F_25_F (co_s sc_ob) rfl ?_
  refine V.get d_F_image_41 f_F_313_Text (co_s (sc_tx (tx_ds 0 (by decide)).1)) rfl ?_
  refine V.callV1 d_F_image_44 k_F_310_Row_takeFrom_RowV (co_s (sc_rw rfl)) (Nat.le_of_ble_eq_true rfl) (by omega) (by omega) (c_Row_takeFrom (a := 76) (b := 4) (N := 50) (N2 := 50) (sz := l0) rfl rfl rfl rfl (by decide) (by repeat (first | exact z3 | rw [uZ_n (by decide)])) h3 h3 (by decide) (by decide) ?_)
  refine V.aload_n d_F_image_47 rfl ?_
  refine V.get d_F_image_48 f_F_74_F (co_s sc_ob) rfl ?_
  refine V.aload_n d_F_image_51 rfl ?_
  refine V.get d_F_image_52 f_F_31_F (co_s sc_ob) rfl ?_
  refine V.get d_F_image_55 f_F_313_Text (co_s (sc_tx (tx_ds 1 (by decide)).1)) rfl ?_
  refine V.callV1 d_F_image_58 k_F_310_Row_takeFrom_RowV (co_s (sc_rw rfl)) (Nat.le_of_ble_eq_true rfl) (by omega) (by omega) (c_Row_takeFrom (a := 78) (b := 10) (N := 50) (N2 := 50) (sz := l1) rfl rfl rfl rfl (by decide) (by repeat (first | exact z4 | rw [uZ_n (by decide)])) h4 h4 (by decide) (by decide) ?_)
  refine V.aload_n d_F_image_61 rfl ?_
  refine V.dup rfl d_F_image_62 ?_
  refine V.get d_F_image_63 f_F_77_F (co_s sc_ob) rfl ?_
  refine V.top (y := Z 0 14) (by rw [uZ_n (by decide), uZ_n (by decide), uZ_n (by decide), uZ_n (by decide)]) ?_
  refine V.iconst_ (nI 1) d_F_image_66 (by decide +kernel) ?_
  refine V.iadd d_F_image_67 ?_
  refine V.put d_F_image_68 f_F_77_F fp_F_14 (fun _ => rfl) (fun _ => rfl) (co_s sc_ob) (Nat.le_of_ble_eq_true rfl) ?_
  refine V.eqH co_uob ?_
  refine V.aload_n d_F_image_71 rfl ?_
  refine V.get d_F_image_72 f_F_77_F (co_s sc_ob) rfl ?_
  refine V.top (y := Z 0 14 + nI 1) (uZ_s) ?_
  refine V.iret d_F_image_75 rfl (by omega) (by omega) ?_
  refine hQ _ _ Ta na hTa hna (fun a q1 q2 q3 q4 => ?_) (fun j hj => ?_) (fun j hj => ?_) (fun j hj => ?_) (fun j hj => ?_) ?_ ?_ ?_ ?_ ?_ (fun b j q1 q2 q3 q4 q5 => ?_)
  · rw [uA_n q4, uA_n q3, uA_n q2, uA_n q1]
  · rw [uA_n (by decide), uA_n (by decide), uA_n (by decide), uA_s]; exact if_pos hj
  · rw [uA_n (by decide), uA_n (by decide), uA_s, uA_n (by decide), uA_n (by decide)]; exact if_pos hj
  · rw [uA_n (by decide), uA_s, uA_n (by decide), uA_n (by decide)]; exact if_pos hj
  · rw [uA_s, uA_n (by decide), uA_n (by decide), uA_n (by decide)]; exact if_pos hj
  · rw [uZ_n (by decide), uZ_n (by decide), uZ_n (by decide), uZ_n (by decide), uZ_s]
  · rw [uZ_n (by decide), uZ_n (by decide), uZ_n (by decide), uZ_s]
  · rw [uZ_n (by decide), uZ_n (by decide), uZ_s]
  · rw [uZ_n (by decide), uZ_s]
  · rw [uZ_s]
  · rw [uZ_n (fun z => q5 z.1), uZ_n (fun z => q4 z.1), uZ_n (fun z => q3 z.1), uZ_n (fun z => q2 z.1), uZ_n (fun z => q1 z.1)]
abbrev M_F_restore : MD := (⟨"FelledByNames", "restore", "()I"⟩, prog_1_method_38_code, 1, (some .int), fun _ => True)
theorem d_F_restore_0 : decode prog_1_method_38_code 0 = .ok (.aload_n 0, 1) := by decide +kernel
theorem d_F_restore_1 : decode prog_1_method_38_code 1 = .ok (.getfield 77, 3) := by decide +kernel
theorem d_F_restore_4 : decode prog_1_method_38_code 4 = .ok (.ifCond .ne 9, 3) := by decide +kernel
theorem d_F_restore_13 : decode prog_1_method_38_code 13 = .ok (.aload_n 0, 1) := by decide +kernel
theorem d_F_restore_14 : decode prog_1_method_38_code 14 = .ok (.getfield 39, 3) := by decide +kernel
theorem d_F_restore_17 : decode prog_1_method_38_code 17 = .ok (.aload_n 0, 1) := by decide +kernel
theorem d_F_restore_18 : decode prog_1_method_38_code 18 = .ok (.getfield 62, 3) := by decide +kernel
theorem d_F_restore_21 : decode prog_1_method_38_code 21 = .ok (.invokevirtual 308, 3) := by decide +kernel
theorem d_F_restore_24 : decode prog_1_method_38_code 24 = .ok (.aload_n 0, 1) := by decide +kernel
theorem d_F_restore_25 : decode prog_1_method_38_code 25 = .ok (.getfield 14, 3) := by decide +kernel
theorem d_F_restore_28 : decode prog_1_method_38_code 28 = .ok (.aload_n 0, 1) := by decide +kernel
theorem d_F_restore_29 : decode prog_1_method_38_code 29 = .ok (.getfield 65, 3) := by decide +kernel
theorem d_F_restore_32 : decode prog_1_method_38_code 32 = .ok (.invokevirtual 310, 3) := by decide +kernel
theorem d_F_restore_35 : decode prog_1_method_38_code 35 = .ok (.aload_n 0, 1) := by decide +kernel
theorem d_F_restore_36 : decode prog_1_method_38_code 36 = .ok (.getfield 46, 3) := by decide +kernel
theorem d_F_restore_39 : decode prog_1_method_38_code 39 = .ok (.aload_n 0, 1) := by decide +kernel
theorem d_F_restore_40 : decode prog_1_method_38_code 40 = .ok (.getfield 68, 3) := by decide +kernel
theorem d_F_restore_43 : decode prog_1_method_38_code 43 = .ok (.invokevirtual 310, 3) := by decide +kernel
theorem d_F_restore_46 : decode prog_1_method_38_code 46 = .ok (.aload_n 0, 1) := by decide +kernel
theorem d_F_restore_47 : decode prog_1_method_38_code 47 = .ok (.getfield 25, 3) := by decide +kernel
theorem d_F_restore_50 : decode prog_1_method_38_code 50 = .ok (.aload_n 0, 1) := by decide +kernel
theorem d_F_restore_51 : decode prog_1_method_38_code 51 = .ok (.getfield 71, 3) := by decide +kernel
theorem d_F_restore_54 : decode prog_1_method_38_code 54 = .ok (.invokevirtual 316, 3) := by decide +kernel
theorem k_F_316_Text_takeCode_TextV : kV "FelledByNames" 316 3 M_Text_takeCode 1 := ⟨kB_Text_takeCode, tm 1032 (by decide +kernel) rfl, tm 391 (by decide +kernel) rfl, tm 392 (by decide +kernel) rfl, _, rfl, rfl⟩
theorem d_F_restore_57 : decode prog_1_method_38_code 57 = .ok (.aload_n 0, 1) := by decide +kernel
theorem d_F_restore_58 : decode prog_1_method_38_code 58 = .ok (.getfield 31, 3) := by decide +kernel
theorem d_F_restore_61 : decode prog_1_method_38_code 61 = .ok (.aload_n 0, 1) := by decide +kernel
theorem d_F_restore_62 : decode prog_1_method_38_code 62 = .ok (.getfield 74, 3) := by decide +kernel
theorem d_F_restore_65 : decode prog_1_method_38_code 65 = .ok (.invokevirtual 316, 3) := by decide +kernel
theorem d_F_restore_68 : decode prog_1_method_38_code 68 = .ok (.aload_n 0, 1) := by decide +kernel
theorem d_F_restore_69 : decode prog_1_method_38_code 69 = .ok (.getfield 39, 3) := by decide +kernel
theorem d_F_restore_72 : decode prog_1_method_38_code 72 = .ok (.getfield 163, 3) := by decide +kernel
theorem d_F_restore_75 : decode prog_1_method_38_code 75 = .ok (.ireturn, 1) := by decide +kernel
theorem d_F_restore_7 : decode prog_1_method_38_code 7 = .ok (.aload_n 0, 1) := by decide +kernel
theorem d_F_restore_8 : decode prog_1_method_38_code 8 = .ok (.iconst 2, 1) := by decide +kernel
theorem d_F_restore_9 : decode prog_1_method_38_code 9 = .ok (.invokevirtual 97, 3) := by decide +kernel
theorem d_F_restore_12 : decode prog_1_method_38_code 12 = .ok (.ireturn, 1) := by decide +kernel
set_option maxRecDepth 100000 in
theorem c_F_restore {tp wt l0 l1 : Nat} {l : Launch} {d n : Nat} {R W Z : Nat → Nat → Int32} {T : Nat → Nat → Nat} {kn : Kn} {h0 : HP} {Q : QT} (hT : TI T kn n) (hB0 : WB (W 0)) (hB2 : WB (W 2)) (hh0 : ∀ a, ¬ (88 ≤ a ∧ a < 104) → h0 a = none) (hE : Z 0 14 = 0 → Q (some (.int (-1000000000 - nI 2))) n (co (uA R 54 (upd (R 54) 2 (R 54 2 + nI 1))) W Z T kn h0)) (hz : ¬ Z 0 14 = 0 → tp ≤ 50 ∧ Z 72 1 = nI tp ∧ wt ≤ 20 ∧ Z 74 1 = nI wt ∧ l0 ≤ 50 ∧ Z 76 1 = nI l0 ∧ l1 ≤ 50 ∧ Z 78 1 = nI l1) (hQ : ¬ Z 0 14 = 0 → ∀ (R1 Z1 : Nat → Nat → Int32) (T1 : Nat → Nat → Nat) (n1 : Nat), TI T1 (fgK 0 kn) n1 → n ≤ n1 → (∀ a, a ≠ 2 → a ≠ 50 → a ≠ 5 → a ≠ 11 → R1 a = R a) → (∀ j, j < tp → R1 2 j = R 73 j) → (∀ j, j < wt → R1 50 j = R 75 j) → (∀ j, j < l0 → R1 5 j = R 77 j) → (∀ j, j < l1 → R1 11 j = R 79 j) → Z1 1 1 = nI tp → Z1 49 1 = nI wt → Z1 4 1 = nI l0 → Z1 10 1 = nI l1 → (∀ b j, b ≠ 1 → b ≠ 49 → b ≠ 4 → b ≠ 10 → Z1 b j = Z b j) → Q (some (.int (W 2 1))) n1 (co R1 (uW W 0 (cpW (W 0) (W 2))) Z1 T1 (fgK 0 kn) h0)) : Ct l M_F_restore (d + 6) 8 64 [.ref 0] n (co R W Z T kn h0) Q := by
  refine Ct.of (fun _ => trivial) (by decide) (Nat.le_of_ble_eq_true rfl) ?_
  refine V.aload_n d_F_restore_0 rfl ?_
  refine V.get d_F_restore_1 f_F_77_F (co_s sc_ob) rfl ?_
  refine V.if_ne (tgt := 13) d_F_restore_4 (by decide) (fun c_4 => ?_) (fun c_4 => ?_)
  · skip
    obtain ⟨h1, z1, h2, z2, h3, z3, h4, z4⟩ := hz c_4
    refine V.aload_n d_F_restore_13 rfl ?_
    refine V.get d_F_restore_14 f_F_39_F (co_s sc_ob) rfl ?_
    refine V.aload_n d_F_restore_17 rfl ?_
    refine V.get d_F_restore_18 f_F_62_F (co_s sc_ob) rfl ?_
    refine V.callV1 d_F_restore_21 k_F_308_World_takeFrom_WorldV (co_s (sc_wd (wb_ds 0 (by decide)).1)) (Nat.le_of_ble_eq_true rfl) (by omega) (by omega) (c_World_takeFrom (w := 0) (v := 2) (mc := 8) (ms := 64) (by decide) (by decide) (by decide) hT hB0 hB2 hh0 (Or.inl ⟨Nat.le_refl _, Nat.le_refl _⟩) (fun Ta na hTa hna hTu => ?_))
    refine V.aload_n d_F_restore_24 rfl ?_
    refine V.get d_F_restore_25 f_F_14_F (co_s sc_ob) rfl ?_
    refine V.aload_n d_F_restore_28 rfl ?_
    refine V.get d_F_restore_29 f_F_65_F (co_s sc_ob) rfl ?_
    refine V.callV1 d_F_restore_32 k_F_310_Row_takeFrom_RowV (co_s (sc_rw rfl)) (Nat.le_of_ble_eq_true rfl) (by omega) (by omega) (c_Row_takeFrom (a := 1) (b := 72) (N := 50) (N2 := 50) (sz := tp) rfl rfl rfl rfl (by decide) (by repeat (first | exact z1 | rw [uZ_n (by decide)])) h1 h1 (by decide) (by decide) ?_)
    refine V.aload_n d_F_restore_35 rfl ?_
    refine V.get d_F_restore_36 f_F_46_F (co_s sc_ob) rfl ?_
    refine V.aload_n d_F_restore_39 rfl ?_
    refine V.get d_F_restore_40 f_F_68_F (co_s sc_ob) rfl ?_
    refine V.callV1 d_F_restore_43 k_F_310_Row_takeFrom_RowV (co_s (sc_rw rfl)) (Nat.le_of_ble_eq_true rfl) (by omega) (by omega) (c_Row_takeFrom (a := 49) (b := 74) (N := 20) (N2 := 20) (sz := wt) rfl rfl rfl rfl (by decide) (by repeat (first | exact z2 | rw [uZ_n (by decide)])) h2 h2 (by decide) (by decide) ?_)
    refine V.aload_n d_F_restore_46 rfl ?_
    refine V.get d_F_restore_47 f_F_25_F (co_s sc_ob) rfl ?_
    refine V.aload_n d_F_restore_50 rfl ?_
    refine V.get d_F_restore_51 f_F_71_F (co_s sc_ob) rfl ?_
    refine V.callV1 d_F_restore_54 k_F_316_Text_takeCode_TextV (co_s (sc_tx (tx_ds 0 (by decide)).1)) (Nat.le_of_ble_eq_true rfl) (by omega) (by omega) (c_Text_takeCode (u := 0) (b := 76) (N2 := 50) (sz := l0) (by decide) hTa rfl rfl (by decide) (by repeat (first | exact z3 | rw [uZ_n (by decide)])) h3 h3 (by decide) ?_)
    refine V.aload_n d_F_restore_57 rfl ?_
    refine V.get d_F_restore_58 f_F_31_F (co_s sc_ob) rfl ?_
    refine V.aload_n d_F_restore_61 rfl ?_
    refine V.get d_F_restore_62 f_F_74_F (co_s sc_ob) rfl ?_
    refine V.callV1 d_F_restore_65 k_F_316_Text_takeCode_TextV (co_s (sc_tx (tx_ds 1 (by decide)).1)) (Nat.le_of_ble_eq_true rfl) (by omega) (by omega) (c_Text_takeCode (u := 1) (b := 78) (N2 := 50) (sz := l1) (by decide) (fgK_T hTa) rfl rfl (by decide) (by repeat (first | exact z4 | rw [uZ_n (by decide)])) h4 h4 (by decide) ?_)
    refine V.aload_n d_F_restore_68 rfl ?_
    refine V.get d_F_restore_69 f_F_39_F (co_s sc_ob) rfl ?_
    refine V.get d_F_restore_72 f_F_163_World (co_s (sc_wd (wb_ds 0 (by decide)).1)) rfl ?_
    refine V.top (y := W 2 1) (by rw [uW_s]; rfl) ?_
    refine V.iret d_F_restore_75 rfl (by omega) (by omega) ?_
    refine hQ c_4 _ _ Ta na (fgK_T hTa) hna (fun a q1 q2 q3 q4 => ?_) (fun j hj => ?_) (fun j hj => ?_) (fun j hj => ?_) (fun j hj => ?_) ?_ ?_ ?_ ?_ (fun b j q1 q2 q3 q4 => ?_)
    · rw [uA_n q4, uA_n q3, uA_n q2, uA_n q1]
    · rw [uA_n (by decide), uA_n (by decide), uA_n (by decide), uA_s]; exact if_pos hj
    · rw [uA_n (by decide), uA_n (by decide), uA_s, uA_n (by decide), uA_n (by decide)]; exact if_pos hj
    · rw [uA_n (by decide), uA_s, uA_n (by decide), uA_n (by decide)]; exact if_pos hj
    · rw [uA_s, uA_n (by decide), uA_n (by decide), uA_n (by decide)]; exact if_pos hj
    · rw [uZ_n (by decide), uZ_n (by decide), uZ_n (by decide), uZ_s]
    · rw [uZ_n (by decide), uZ_n (by decide), uZ_s]
    · rw [uZ_n (by decide), uZ_s]
    · rw [uZ_s]
    · rw [uZ_n (fun z => q4 z.1), uZ_n (fun z => q3 z.1), uZ_n (fun z => q2 z.1), uZ_n (fun z => q1 z.1)]
  · skip
    refine V.aload_n d_F_restore_7 rfl ?_
    refine V.iconst_ (nI 2) d_F_restore_8 (by decide +kernel) ?_
    refine V.callV1 d_F_restore_9 k_F_97_F_error_FV (co_s sc_ob) (Nat.le_of_ble_eq_true rfl) (by omega) (by omega) (c_F_error (by decide) ?_)
    refine V.iret d_F_restore_12 rfl (by omega) (by omega) ?_
    exact hE c_4
