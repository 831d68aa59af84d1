abbrev M_F_hold : MD := (⟨"FelledByNames", "hold", "(III)I"⟩, prog_1_method_2_code, 5, (some .int), fun _ => True)
theorem d_F_hold_0 : decode prog_1_method_2_code 0 = .ok (.iload_n 1, 1) := by decide +kernel
theorem d_F_hold_1 : decode prog_1_method_2_code 1 = .ok (.iload_n 2, 1) := by decide +kernel
theorem d_F_hold_2 : decode prog_1_method_2_code 2 = .ok (.invokestatic 90, 3) := by decide +kernel
theorem k_F_90_F_areTwoS : kS "FelledByNames" 90 M_F_areTwo 2 := ⟨kB_F_areTwo, tm 474 (by decide +kernel) rfl, tm 475 (by decide +kernel) rfl⟩
theorem d_F_hold_5 : decode prog_1_method_2_code 5 = .ok (.ifCond .eq 12, 3) := by decide +kernel
theorem d_F_hold_17 : decode prog_1_method_2_code 17 = .ok (.aload_n 0, 1) := by decide +kernel
theorem d_F_hold_18 : decode prog_1_method_2_code 18 = .ok (.iconst 1, 1) := by decide +kernel
theorem d_F_hold_19 : decode prog_1_method_2_code 19 = .ok (.invokevirtual 97, 3) := by decide +kernel
theorem kB_F_error : kB M_F_error 1 := ⟨tm 1 (by decide +kernel) rfl, tm 483 (by decide +kernel) rfl, ⟨by decide, by decide, by decide +kernel⟩, by decide⟩
theorem k_F_97_F_error_FV : kV "FelledByNames" 97 0 M_F_error 1 := ⟨kB_F_error, tm 480 (by decide +kernel) rfl, tm 482 (by decide +kernel) rfl, tp 6 (by decide +kernel) rfl, _, rfl, rfl⟩
theorem d_F_hold_22 : decode prog_1_method_2_code 22 = .ok (.ireturn, 1) := by decide +kernel
theorem d_F_hold_8 : decode prog_1_method_2_code 8 = .ok (.iload_n 3, 1) := by decide +kernel
theorem d_F_hold_9 : decode prog_1_method_2_code 9 = .ok (.bipush 99, 2) := by decide +kernel
theorem d_F_hold_11 : decode prog_1_method_2_code 11 = .ok (.invokestatic 94, 3) := by decide +kernel
theorem d_F_hold_14 : decode prog_1_method_2_code 14 = .ok (.ifCond .ne 9, 3) := by decide +kernel
theorem d_F_hold_23 : decode prog_1_method_2_code 23 = .ok (.aload_n 0, 1) := by decide +kernel
theorem d_F_hold_24 : decode prog_1_method_2_code 24 = .ok (.getfield 39, 3) := by decide +kernel
theorem d_F_hold_27 : decode prog_1_method_2_code 27 = .ok (.getfield 101, 3) := by decide +kernel
theorem f_F_101_World : fok "FelledByNames" 101 4 2 := ⟨R_World, F_World, 14, "FelledByNames$World", rfl, i_World, by decide, tm 178 (by decide +kernel) rfl, Or.inl rfl, t_World, t_World_ok, n_World⟩
theorem d_F_hold_30 : decode prog_1_method_2_code 30 = .ok (.iload_n 1, 1) := by decide +kernel
theorem d_F_hold_31 : decode prog_1_method_2_code 31 = .ok (.iload_n 2, 1) := by decide +kernel
theorem d_F_hold_32 : decode prog_1_method_2_code 32 = .ok (.invokestatic 104, 3) := by decide +kernel
theorem k_F_104_F_cellS : kS "FelledByNames" 104 M_F_cell 2 := ⟨kB_F_cell, tm 485 (by decide +kernel) rfl, tm 486 (by decide +kernel) rfl⟩
theorem d_F_hold_35 : decode prog_1_method_2_code 35 = .ok (.iaload, 1) := by decide +kernel
theorem d_F_hold_36 : decode prog_1_method_2_code 36 = .ok (.istore 4, 2) := by decide +kernel
theorem d_F_hold_38 : decode prog_1_method_2_code 38 = .ok (.aload_n 0, 1) := by decide +kernel
theorem d_F_hold_39 : decode prog_1_method_2_code 39 = .ok (.getfield 39, 3) := by decide +kernel
theorem d_F_hold_42 : decode prog_1_method_2_code 42 = .ok (.getfield 101, 3) := by decide +kernel
theorem d_F_hold_45 : decode prog_1_method_2_code 45 = .ok (.iload_n 1, 1) := by decide +kernel
theorem d_F_hold_46 : decode prog_1_method_2_code 46 = .ok (.iload_n 2, 1) := by decide +kernel
theorem d_F_hold_47 : decode prog_1_method_2_code 47 = .ok (.invokestatic 104, 3) := by decide +kernel
theorem d_F_hold_50 : decode prog_1_method_2_code 50 = .ok (.iload_n 3, 1) := by decide +kernel
theorem d_F_hold_51 : decode prog_1_method_2_code 51 = .ok (.iastore, 1) := by decide +kernel
theorem d_F_hold_52 : decode prog_1_method_2_code 52 = .ok (.iload 4, 2) := by decide +kernel
theorem d_F_hold_54 : decode prog_1_method_2_code 54 = .ok (.ireturn, 1) := by decide +kernel
set_option maxRecDepth 100000 in
theorem c_F_hold {x y v : Int32} {l : Launch} {d n : Nat} {R W Z : Nat → Nat → Int32} {T : Nat → Nat → Nat} {kn : Kn} {h0 : HP} {Q : QT} (hT : TI T kn n) (hE : (two x y && wi v (nI 0) (nI 99)) = false → Q (some (.int (-1000000000 - nI 1))) n (co (uA R 54 (upd (R 54) 1 (R 54 1 + nI 1))) W Z T kn h0)) (hOk : ∀ a b, a ≤ 5 → b ≤ 5 → a ≠ b → x = nI a → y = nI b → wi v (nI 0) (nI 99) = true → Q (some (.int (W 0 (8 + (a * 6 + b))))) n (co R (uW W 0 (upd (W 0) (8 + (a * 6 + b)) v)) Z T kn h0)) : Ct l M_F_hold (d + 2) 0 0 [.ref 0, .int x, .int y, .int v] n (co R W Z T kn h0) Q := by
  refine Ct.of (fun _ => trivial) (by decide) (Nat.le_of_ble_eq_true rfl) ?_
  refine V.iload_n d_F_hold_0 rfl ?_
  refine V.iload_n d_F_hold_1 rfl ?_
  refine V.callS2 d_F_hold_2 k_F_90_F_areTwoS (Nat.le_of_ble_eq_true rfl) (by omega) (by omega) (c_F_areTwo ?_)
  refine V.ifeqB (tgt := 17) d_F_hold_5 (by decide) (fun c_5 => ?_) (fun c_5 => ?_)
  · skip
    refine V.aload_n d_F_hold_17 rfl ?_
    refine V.iconst_ (nI 1) d_F_hold_18 (by decide +kernel) ?_
    refine V.callV1 d_F_hold_19 k_F_97_F_error_FV (co_s sc_ob) (Nat.le_of_ble_eq_true rfl) (by omega) (by omega) (c_F_error (by decide) ?_)
    refine V.iret d_F_hold_22 rfl (by omega) (by omega) ?_
    exact hE (by simp only [c_5, Bool.and_false, Bool.false_and, Bool.and_true, Bool.true_and])
  · skip
    refine V.iload_n d_F_hold_8 rfl ?_
    refine V.bipush_ (nI 99) d_F_hold_9 (by decide +kernel) ?_
    refine V.callS2 d_F_hold_11 k_F_94_F_withinS (Nat.le_of_ble_eq_true rfl) (by omega) (by omega) (c_F_within ?_)
    refine V.ifneB (tgt := 23) d_F_hold_14 (by decide) (fun c_14 => ?_) (fun c_14 => ?_)
    · skip
      obtain ⟨a, b, ha, hb, hab, rfl, rfl⟩ := two_nat c_5
      refine V.aload_n d_F_hold_23 rfl ?_
      refine V.get d_F_hold_24 f_F_39_F (co_s sc_ob) rfl ?_
      refine V.get d_F_hold_27 f_F_101_World (co_s (sc_wd (wb_ds 0 (by decide)).1)) rfl ?_
      refine V.iload_n d_F_hold_30 rfl ?_
      refine V.iload_n d_F_hold_31 rfl ?_
      refine V.callS2 d_F_hold_32 k_F_104_F_cellS (Nat.le_of_ble_eq_true rfl) (by omega) (by omega) (c_F_cell ?_)
      refine V.ialdN d_F_hold_35 (co_s (sc_ho (wb_ds 0 (by decide)).2.1)) (by omega) (by omega) ?_
      rw [gd_at (by omega)]
      refine V.istore d_F_hold_36 (by decide) ?_
      refine V.aload_n d_F_hold_38 rfl ?_
      refine V.get d_F_hold_39 f_F_39_F (co_s sc_ob) rfl ?_
      refine V.get d_F_hold_42 f_F_101_World (co_s (sc_wd (wb_ds 0 (by decide)).1)) rfl ?_
      refine V.iload_n d_F_hold_45 rfl ?_
      refine V.iload_n d_F_hold_46 rfl ?_
      refine V.callS2 d_F_hold_47 k_F_104_F_cellS (Nat.le_of_ble_eq_true rfl) (by omega) (by omega) (c_F_cell ?_)
      refine V.iload_n d_F_hold_50 rfl ?_
      refine V.iastN d_F_hold_51 (co_s (sc_ho (wb_ds 0 (by decide)).2.1)) (by omega) (by omega) ?_
      refine V.eqH (co_uho (w := 0) hT (by decide) (by omega)) ?_
      refine V.iload d_F_hold_52 rfl ?_
      refine V.iret d_F_hold_54 rfl (by omega) (by omega) ?_
      exact hOk a b ha hb hab rfl rfl c_14
    · skip
      refine V.aload_n d_F_hold_17 rfl ?_
      refine V.iconst_ (nI 1) d_F_hold_18 (by decide +kernel) ?_
      refine V.callV1 d_F_hold_19 k_F_97_F_error_FV (co_s sc_ob) (Nat.le_of_ble_eq_true rfl) (by omega) (by omega) (c_F_error (by decide) ?_)
      refine V.iret d_F_hold_22 rfl (by omega) (by omega) ?_
      exact hE (by simp only [c_5, c_14, Bool.and_false, Bool.false_and, Bool.and_true, Bool.true_and])
abbrev M_F_holds : MD := (⟨"FelledByNames", "holds", "(II)I"⟩, prog_1_method_3_code, 3, (some .int), fun _ => True)
theorem d_F_holds_0 : decode prog_1_method_3_code 0 = .ok (.iload_n 1, 1) := by decide +kernel
theorem d_F_holds_1 : decode prog_1_method_3_code 1 = .ok (.iload_n 2, 1) := by decide +kernel
theorem d_F_holds_2 : decode prog_1_method_3_code 2 = .ok (.invokestatic 90, 3) := by decide +kernel
theorem d_F_holds_5 : decode prog_1_method_3_code 5 = .ok (.ifCond .ne 9, 3) := by decide +kernel
theorem d_F_holds_14 : decode prog_1_method_3_code 14 = .ok (.aload_n 0, 1) := by decide +kernel
theorem d_F_holds_15 : decode prog_1_method_3_code 15 = .ok (.getfield 39, 3) := by decide +kernel
theorem d_F_holds_18 : decode prog_1_method_3_code 18 = .ok (.getfield 101, 3) := by decide +kernel
theorem d_F_holds_21 : decode prog_1_method_3_code 21 = .ok (.iload_n 1, 1) := by decide +kernel
theorem d_F_holds_22 : decode prog_1_method_3_code 22 = .ok (.iload_n 2, 1) := by decide +kernel
theorem d_F_holds_23 : decode prog_1_method_3_code 23 = .ok (.invokestatic 104, 3) := by decide +kernel
theorem d_F_holds_26 : decode prog_1_method_3_code 26 = .ok (.iaload, 1) := by decide +kernel
theorem d_F_holds_27 : decode prog_1_method_3_code 27 = .ok (.ireturn, 1) := by decide +kernel
theorem d_F_holds_8 : decode prog_1_method_3_code 8 = .ok (.aload_n 0, 1) := by decide +kernel
theorem d_F_holds_9 : decode prog_1_method_3_code 9 = .ok (.iconst 1, 1) := by decide +kernel
theorem d_F_holds_10 : decode prog_1_method_3_code 10 = .ok (.invokevirtual 97, 3) := by decide +kernel
theorem d_F_holds_13 : decode prog_1_method_3_code 13 = .ok (.ireturn, 1) := by decide +kernel
set_option maxRecDepth 100000 in
theorem c_F_holds {x y : Int32} {l : Launch} {d n : Nat} {R W Z : Nat → Nat → Int32} {T : Nat → Nat → Nat} {kn : Kn} {h0 : HP} {Q : QT} (hT : TI T kn n) (hE : two x y = false → Q (some (.int (-1000000000 - nI 1))) n (co (uA R 54 (upd (R 54) 1 (R 54 1 + nI 1))) W Z T kn h0)) (hOk : ∀ a b, a ≤ 5 → b ≤ 5 → a ≠ b → x = nI a → y = nI b → Q (some (.int (W 0 (8 + (a * 6 + b))))) n (co R W Z T kn h0)) : Ct l M_F_holds (d + 2) 0 0 [.ref 0, .int x, .int y] n (co R W Z T kn h0) Q := by
  refine Ct.of (fun _ => trivial) (by decide) (Nat.le_of_ble_eq_true rfl) ?_
  refine V.iload_n d_F_holds_0 rfl ?_
  refine V.iload_n d_F_holds_1 rfl ?_
  refine V.callS2 d_F_holds_2 k_F_90_F_areTwoS (Nat.le_of_ble_eq_true rfl) (by omega) (by omega) (c_F_areTwo ?_)
  refine V.ifneB (tgt := 14) d_F_holds_5 (by decide) (fun c_5 => ?_) (fun c_5 => ?_)
  · skip
    obtain ⟨a, b, ha, hb, hab, rfl, rfl⟩ := two_nat c_5
    refine V.aload_n d_F_holds_14 rfl ?_
    refine V.get d_F_holds_15 f_F_39_F (co_s sc_ob) rfl ?_
    refine V.get d_F_holds_18 f_F_101_World (co_s (sc_wd (wb_ds 0 (by decide)).1)) rfl ?_
    refine V.iload_n d_F_holds_21 rfl ?_
    refine V.iload_n d_F_holds_22 rfl ?_
    refine V.callS2 d_F_holds_23 k_F_104_F_cellS (Nat.le_of_ble_eq_true rfl) (by omega) (by omega) (c_F_cell ?_)
    refine V.ialdN d_F_holds_26 (co_s (sc_ho (wb_ds 0 (by decide)).2.1)) (by omega) (by omega) ?_
    rw [gd_at (by omega)]
    refine V.iret d_F_holds_27 rfl (by omega) (by omega) ?_
    exact hOk a b ha hb hab rfl rfl
  · skip
    refine V.aload_n d_F_holds_8 rfl ?_
    refine V.iconst_ (nI 1) d_F_holds_9 (by decide +kernel) ?_
    refine V.callV1 d_F_holds_10 k_F_97_F_error_FV (co_s sc_ob) (Nat.le_of_ble_eq_true rfl) (by omega) (by omega) (c_F_error (by decide) ?_)
    refine V.iret d_F_holds_13 rfl (by omega) (by omega) ?_
    exact hE c_5
abbrev M_F_talk : MD := (⟨"FelledByNames", "talk", "(II)I"⟩, prog_1_method_4_code, 4, (some .int), fun _ => True)
theorem d_F_talk_0 : decode prog_1_method_4_code 0 = .ok (.iload_n 1, 1) := by decide +kernel
theorem d_F_talk_1 : decode prog_1_method_4_code 1 = .ok (.iconst 5, 1) := by decide +kernel
theorem d_F_talk_2 : decode prog_1_method_4_code 2 = .ok (.invokestatic 94, 3) := by decide +kernel
theorem d_F_talk_5 : decode prog_1_method_4_code 5 = .ok (.ifCond .eq 12, 3) := by decide +kernel
theorem d_F_talk_17 : decode prog_1_method_4_code 17 = .ok (.aload_n 0, 1) := by decide +kernel
theorem d_F_talk_18 : decode prog_1_method_4_code 18 = .ok (.iconst 1, 1) := by decide +kernel
theorem d_F_talk_19 : decode prog_1_method_4_code 19 = .ok (.invokevirtual 97, 3) := by decide +kernel
theorem d_F_talk_22 : decode prog_1_method_4_code 22 = .ok (.ireturn, 1) := by decide +kernel
theorem d_F_talk_8 : decode prog_1_method_4_code 8 = .ok (.iload_n 2, 1) := by decide +kernel
theorem d_F_talk_9 : decode prog_1_method_4_code 9 = .ok (.bipush 9, 2) := by decide +kernel
theorem d_F_talk_11 : decode prog_1_method_4_code 11 = .ok (.invokestatic 94, 3) := by decide +kernel
theorem d_F_talk_14 : decode prog_1_method_4_code 14 = .ok (.ifCond .ne 9, 3) := by decide +kernel
theorem d_F_talk_23 : decode prog_1_method_4_code 23 = .ok (.aload_n 0, 1) := by decide +kernel
theorem d_F_talk_24 : decode prog_1_method_4_code 24 = .ok (.getfield 39, 3) := by decide +kernel
theorem d_F_talk_27 : decode prog_1_method_4_code 27 = .ok (.getfield 108, 3) := by decide +kernel
theorem f_F_108_World : fok "FelledByNames" 108 4 3 := ⟨R_World, F_World, 14, "FelledByNames$World", rfl, i_World, by decide, tm 180 (by decide +kernel) rfl, Or.inl rfl, t_World, t_World_ok, n_World⟩
theorem d_F_talk_30 : decode prog_1_method_4_code 30 = .ok (.iload_n 1, 1) := by decide +kernel
theorem d_F_talk_31 : decode prog_1_method_4_code 31 = .ok (.iaload, 1) := by decide +kernel
theorem d_F_talk_32 : decode prog_1_method_4_code 32 = .ok (.istore_n 3, 1) := by decide +kernel
theorem d_F_talk_33 : decode prog_1_method_4_code 33 = .ok (.aload_n 0, 1) := by decide +kernel
theorem d_F_talk_34 : decode prog_1_method_4_code 34 = .ok (.getfield 39, 3) := by decide +kernel
theorem d_F_talk_37 : decode prog_1_method_4_code 37 = .ok (.getfield 108, 3) := by decide +kernel
theorem d_F_talk_40 : decode prog_1_method_4_code 40 = .ok (.iload_n 1, 1) := by decide +kernel
theorem d_F_talk_41 : decode prog_1_method_4_code 41 = .ok (.iload_n 2, 1) := by decide +kernel
theorem d_F_talk_42 : decode prog_1_method_4_code 42 = .ok (.iastore, 1) := by decide +kernel
theorem d_F_talk_43 : decode prog_1_method_4_code 43 = .ok (.iload_n 3, 1) := by decide +kernel
theorem d_F_talk_44 : decode prog_1_method_4_code 44 = .ok (.ireturn, 1) := by decide +kernel
set_option maxRecDepth 100000 in
theorem c_F_talk {x v : Int32} {l : Launch} {d n : Nat} {R W Z : Nat → Nat → Int32} {T : Nat → Nat → Nat} {kn : Kn} {h0 : HP} {Q : QT} (hT : TI T kn n) (hE : (wi x (nI 0) (nI 5) && wi v (nI 0) (nI 9)) = false → Q (some (.int (-1000000000 - nI 1))) n (co (uA R 54 (upd (R 54) 1 (R 54 1 + nI 1))) W Z T kn h0)) (hOk : ∀ a, a ≤ 5 → x = nI a → wi v (nI 0) (nI 9) = true → Q (some (.int (W 0 (44 + a)))) n (co R (uW W 0 (upd (W 0) (44 + a) v)) Z T kn h0)) : Ct l M_F_talk (d + 2) 0 0 [.ref 0, .int x, .int v] n (co R W Z T kn h0) Q := by
  refine Ct.of (fun _ => trivial) (by decide) (Nat.le_of_ble_eq_true rfl) ?_
  refine V.iload_n d_F_talk_0 rfl ?_
  refine V.iconst_ (nI 5) d_F_talk_1 (by decide +kernel) ?_
  refine V.callS2 d_F_talk_2 k_F_94_F_withinS (Nat.le_of_ble_eq_true rfl) (by omega) (by omega) (c_F_within ?_)
  refine V.ifeqB (tgt := 17) d_F_talk_5 (by decide) (fun c_5 => ?_) (fun c_5 => ?_)
  · skip
    refine V.aload_n d_F_talk_17 rfl ?_
    refine V.iconst_ (nI 1) d_F_talk_18 (by decide +kernel) ?_
    refine V.callV1 d_F_talk_19 k_F_97_F_error_FV (co_s sc_ob) (Nat.le_of_ble_eq_true rfl) (by omega) (by omega) (c_F_error (by decide) ?_)
    refine V.iret d_F_talk_22 rfl (by omega) (by omega) ?_
    exact hE (by simp only [c_5, Bool.and_false, Bool.false_and, Bool.and_true, Bool.true_and])
  · skip
    refine V.iload_n d_F_talk_8 rfl ?_
    refine V.bipush_ (nI 9) d_F_talk_9 (by decide +kernel) ?_
    refine V.callS2 d_F_talk_11 k_F_94_F_withinS (Nat.le_of_ble_eq_true rfl) (by omega) (by omega) (c_F_within ?_)
    refine V.ifneB (tgt := 23) d_F_talk_14 (by decide) (fun c_14 => ?_) (fun c_14 => ?_)
    · skip
      obtain ⟨a, ha, rfl⟩ := wi_nat (k := 5) (by decide) c_5
      refine V.aload_n d_F_talk_23 rfl ?_
      refine V.get d_F_talk_24 f_F_39_F (co_s sc_ob) rfl ?_
      refine V.get d_F_talk_27 f_F_108_World (co_s (sc_wd (wb_ds 0 (by decide)).1)) rfl ?_
      refine V.iload_n d_F_talk_30 rfl ?_
      refine V.ialdN d_F_talk_31 (co_s (sc_ta (wb_ds 0 (by decide)).2.2.1)) (by omega) (by omega) ?_
      rw [gd_at (by omega)]
      refine V.istore_n d_F_talk_32 (by decide) ?_
      refine V.aload_n d_F_talk_33 rfl ?_
      refine V.get d_F_talk_34 f_F_39_F (co_s sc_ob) rfl ?_
      refine V.get d_F_talk_37 f_F_108_World (co_s (sc_wd (wb_ds 0 (by decide)).1)) rfl ?_
      refine V.iload_n d_F_talk_40 rfl ?_
      refine V.iload_n d_F_talk_41 rfl ?_
      refine V.iastN d_F_talk_42 (co_s (sc_ta (wb_ds 0 (by decide)).2.2.1)) (by omega) (by omega) ?_
      refine V.eqH (co_uta (w := 0) hT (by decide) (by omega)) ?_
      refine V.iload_n d_F_talk_43 rfl ?_
      refine V.iret d_F_talk_44 rfl (by omega) (by omega) ?_
      exact hOk a ha rfl c_14
    · skip
      refine V.aload_n d_F_talk_17 rfl ?_
      refine V.iconst_ (nI 1) d_F_talk_18 (by decide +kernel) ?_
      refine V.callV1 d_F_talk_19 k_F_97_F_error_FV (co_s sc_ob) (Nat.le_of_ble_eq_true rfl) (by omega) (by omega) (c_F_error (by decide) ?_)
      refine V.iret d_F_talk_22 rfl (by omega) (by omega) ?_
      exact hE (by simp only [c_5, c_14, Bool.and_false, Bool.false_and, Bool.and_true, Bool.true_and])
abbrev M_F_talkOf : MD := (⟨"FelledByNames", "talkOf", "(I)I"⟩, prog_1_method_5_code, 2, (some .int), fun _ => True)
theorem d_F_talkOf_0 : decode prog_1_method_5_code 0 = .ok (.iload_n 1, 1) := by decide +kernel
theorem d_F_talkOf_1 : decode prog_1_method_5_code 1 = .ok (.iconst 5, 1) := by decide +kernel
theorem d_F_talkOf_2 : decode prog_1_method_5_code 2 = .ok (.invokestatic 94, 3) := by decide +kernel
theorem d_F_talkOf_5 : decode prog_1_method_5_code 5 = .ok (.ifCond .ne 9, 3) := by decide +kernel
theorem d_F_talkOf_14 : decode prog_1_method_5_code 14 = .ok (.aload_n 0, 1) := by decide +kernel
theorem d_F_talkOf_15 : decode prog_1_method_5_code 15 = .ok (.getfield 39, 3) := by decide +kernel
theorem d_F_talkOf_18 : decode prog_1_method_5_code 18 = .ok (.getfield 108, 3) := by decide +kernel
theorem d_F_talkOf_21 : decode prog_1_method_5_code 21 = .ok (.iload_n 1, 1) := by decide +kernel
theorem d_F_talkOf_22 : decode prog_1_method_5_code 22 = .ok (.iaload, 1) := by decide +kernel
theorem d_F_talkOf_23 : decode prog_1_method_5_code 23 = .ok (.ireturn, 1) := by decide +kernel
theorem d_F_talkOf_8 : decode prog_1_method_5_code 8 = .ok (.aload_n 0, 1) := by decide +kernel
theorem d_F_talkOf_9 : decode prog_1_method_5_code 9 = .ok (.iconst 1, 1) := by decide +kernel
theorem d_F_talkOf_10 : decode prog_1_method_5_code 10 = .ok (.invokevirtual 97, 3) := by decide +kernel
theorem d_F_talkOf_13 : decode prog_1_method_5_code 13 = .ok (.ireturn, 1) := by decide +kernel
set_option maxRecDepth 100000 in
theorem c_F_talkOf {x : Int32} {l : Launch} {d n : Nat} {R W Z : Nat → Nat → Int32} {T : Nat → Nat → Nat} {kn : Kn} {h0 : HP} {Q : QT} (hT : TI T kn n) (hE : wi x (nI 0) (nI 5) = false → Q (some (.int (-1000000000 - nI 1))) n (co (uA R 54 (upd (R 54) 1 (R 54 1 + nI 1))) W Z T kn h0)) (hOk : ∀ a, a ≤ 5 → x = nI a → Q (some (.int (W 0 (44 + a)))) n (co R W Z T kn h0)) : Ct l M_F_talkOf (d + 2) 0 0 [.ref 0, .int x] n (co R W Z T kn h0) Q := by
  refine Ct.of (fun _ => trivial) (by decide) (Nat.le_of_ble_eq_true rfl) ?_
  refine V.iload_n d_F_talkOf_0 rfl ?_
  refine V.iconst_ (nI 5) d_F_talkOf_1 (by decide +kernel) ?_
  refine V.callS2 d_F_talkOf_2 k_F_94_F_withinS (Nat.le_of_ble_eq_true rfl) (by omega) (by omega) (c_F_within ?_)
  refine V.ifneB (tgt := 14) d_F_talkOf_5 (by decide) (fun c_5 => ?_) (fun c_5 => ?_)
  · skip
    obtain ⟨a, ha, rfl⟩ := wi_nat (k := 5) (by decide) c_5
    refine V.aload_n d_F_talkOf_14 rfl ?_
    refine V.get d_F_talkOf_15 f_F_39_F (co_s sc_ob) rfl ?_
    refine V.get d_F_talkOf_18 f_F_108_World (co_s (sc_wd (wb_ds 0 (by decide)).1)) rfl ?_
    refine V.iload_n d_F_talkOf_21 rfl ?_
    refine V.ialdN d_F_talkOf_22 (co_s (sc_ta (wb_ds 0 (by decide)).2.2.1)) (by omega) (by omega) ?_
    rw [gd_at (by omega)]
    refine V.iret d_F_talkOf_23 rfl (by omega) (by omega) ?_
    exact hOk a ha rfl
  · skip
    refine V.aload_n d_F_talkOf_8 rfl ?_
    refine V.iconst_ (nI 1) d_F_talkOf_9 (by decide +kernel) ?_
    refine V.callV1 d_F_talkOf_10 k_F_97_F_error_FV (co_s sc_ob) (Nat.le_of_ble_eq_true rfl) (by omega) (by omega) (c_F_error (by decide) ?_)
    refine V.iret d_F_talkOf_13 rfl (by omega) (by omega) ?_
    exact hE c_5
theorem set_f {x v : Int32} (h : ¬ ((x = nI 0 ∧ wi v (nI 0) (nI 15) = true) ∨ (x = nI 1 ∧ wi v (nI 0) (nI 999) = true) ∨ (x = nI 2 ∧ wi v (nI 0) (nI 99999) = true))) : (wi x (nI 0) (nI 2) && wi v (nI 0) (if x = nI 0 then nI 15 else if x = nI 1 then nI 999 else nI 99999)) = false := by
  refine Bool.eq_false_iff.mpr (fun z => h ?_)
  rw [Bool.and_eq_true] at z
  obtain ⟨z1, z2⟩ := z
  obtain ⟨i, hi, rfl⟩ := wi_nat (k := 2) (by decide) z1
  rcases (show i = 0 ∨ i = 1 ∨ i = 2 by omega) with rfl | rfl | rfl
  · exact Or.inl ⟨rfl, z2⟩
  · exact Or.inr (Or.inl ⟨rfl, z2⟩)
  · exact Or.inr (Or.inr ⟨rfl, z2⟩)
abbrev M_F_set : MD := (⟨"FelledByNames", "set", "(II)I"⟩, prog_1_method_6_code, 4, (some .int), fun _ => True)
theorem d_F_set_0 : decode prog_1_method_6_code 0 = .ok (.iload_n 1, 1) := by decide +kernel
theorem d_F_set_1 : decode prog_1_method_6_code 1 = .ok (.ifCond .ne 31, 3) := by decide +kernel
theorem d_F_set_32 : decode prog_1_method_6_code 32 = .ok (.iload_n 1, 1) := by decide +kernel
theorem d_F_set_33 : decode prog_1_method_6_code 33 = .ok (.iconst 1, 1) := by decide +kernel
theorem d_F_set_34 : decode prog_1_method_6_code 34 = .ok (.if_icmp .ne 32, 3) := by decide +kernel
theorem d_F_set_66 : decode prog_1_method_6_code 66 = .ok (.iload_n 1, 1) := by decide +kernel
theorem d_F_set_67 : decode prog_1_method_6_code 67 = .ok (.iconst 2, 1) := by decide +kernel
theorem d_F_set_68 : decode prog_1_method_6_code 68 = .ok (.if_icmp .ne 31, 3) := by decide +kernel
theorem d_F_set_99 : decode prog_1_method_6_code 99 = .ok (.aload_n 0, 1) := by decide +kernel
theorem d_F_set_100 : decode prog_1_method_6_code 100 = .ok (.iconst 1, 1) := by decide +kernel
theorem d_F_set_101 : decode prog_1_method_6_code 101 = .ok (.invokevirtual 97, 3) := by decide +kernel
theorem d_F_set_104 : decode prog_1_method_6_code 104 = .ok (.ireturn, 1) := by decide +kernel
theorem d_F_set_71 : decode prog_1_method_6_code 71 = .ok (.iload_n 2, 1) := by decide +kernel
theorem d_F_set_72 : decode prog_1_method_6_code 72 = .ok (.ldc 117, 2) := by decide +kernel
theorem d_F_set_74 : decode prog_1_method_6_code 74 = .ok (.invokestatic 94, 3) := by decide +kernel
theorem d_F_set_77 : decode prog_1_method_6_code 77 = .ok (.ifCond .eq 22, 3) := by decide +kernel
theorem d_F_set_80 : decode prog_1_method_6_code 80 = .ok (.aload_n 0, 1) := by decide +kernel
theorem d_F_set_81 : decode prog_1_method_6_code 81 = .ok (.getfield 39, 3) := by decide +kernel
theorem d_F_set_84 : decode prog_1_method_6_code 84 = .ok (.getfield 118, 3) := by decide +kernel
theorem f_F_118_World : fok "FelledByNames" 118 4 9 := ⟨R_World, F_World, 14, "FelledByNames$World", rfl, i_World, by decide, tm 192 (by decide +kernel) rfl, Or.inl rfl, t_World, t_World_ok, n_World⟩
theorem d_F_set_87 : decode prog_1_method_6_code 87 = .ok (.istore_n 3, 1) := by decide +kernel
theorem d_F_set_88 : decode prog_1_method_6_code 88 = .ok (.aload_n 0, 1) := by decide +kernel
theorem d_F_set_89 : decode prog_1_method_6_code 89 = .ok (.getfield 39, 3) := by decide +kernel
theorem d_F_set_92 : decode prog_1_method_6_code 92 = .ok (.iload_n 2, 1) := by decide +kernel
theorem d_F_set_93 : decode prog_1_method_6_code 93 = .ok (.putfield 118, 3) := by decide +kernel
theorem d_F_set_96 : decode prog_1_method_6_code 96 = .ok (.goto 9, 3) := by decide +kernel
theorem d_F_set_105 : decode prog_1_method_6_code 105 = .ok (.iload_n 3, 1) := by decide +kernel
theorem d_F_set_106 : decode prog_1_method_6_code 106 = .ok (.ireturn, 1) := by decide +kernel
theorem d_F_set_37 : decode prog_1_method_6_code 37 = .ok (.iload_n 2, 1) := by decide +kernel
theorem d_F_set_38 : decode prog_1_method_6_code 38 = .ok (.sipush 999, 3) := by decide +kernel
theorem d_F_set_41 : decode prog_1_method_6_code 41 = .ok (.invokestatic 94, 3) := by decide +kernel
theorem d_F_set_44 : decode prog_1_method_6_code 44 = .ok (.ifCond .eq 22, 3) := by decide +kernel
theorem d_F_set_47 : decode prog_1_method_6_code 47 = .ok (.aload_n 0, 1) := by decide +kernel
theorem d_F_set_48 : decode prog_1_method_6_code 48 = .ok (.getfield 39, 3) := by decide +kernel
theorem d_F_set_51 : decode prog_1_method_6_code 51 = .ok (.getfield 114, 3) := by decide +kernel
theorem f_F_114_World : fok "FelledByNames" 114 4 8 := ⟨R_World, F_World, 14, "FelledByNames$World", rfl, i_World, by decide, tm 190 (by decide +kernel) rfl, Or.inl rfl, t_World, t_World_ok, n_World⟩
theorem d_F_set_54 : decode prog_1_method_6_code 54 = .ok (.istore_n 3, 1) := by decide +kernel
theorem d_F_set_55 : decode prog_1_method_6_code 55 = .ok (.aload_n 0, 1) := by decide +kernel
theorem d_F_set_56 : decode prog_1_method_6_code 56 = .ok (.getfield 39, 3) := by decide +kernel
theorem d_F_set_59 : decode prog_1_method_6_code 59 = .ok (.iload_n 2, 1) := by decide +kernel
theorem d_F_set_60 : decode prog_1_method_6_code 60 = .ok (.putfield 114, 3) := by decide +kernel
theorem d_F_set_63 : decode prog_1_method_6_code 63 = .ok (.goto 42, 3) := by decide +kernel
theorem d_F_set_4 : decode prog_1_method_6_code 4 = .ok (.iload_n 2, 1) := by decide +kernel
theorem d_F_set_5 : decode prog_1_method_6_code 5 = .ok (.bipush 15, 2) := by decide +kernel
theorem d_F_set_7 : decode prog_1_method_6_code 7 = .ok (.invokestatic 94, 3) := by decide +kernel
theorem d_F_set_10 : decode prog_1_method_6_code 10 = .ok (.ifCond .eq 22, 3) := by decide +kernel
theorem d_F_set_13 : decode prog_1_method_6_code 13 = .ok (.aload_n 0, 1) := by decide +kernel
theorem d_F_set_14 : decode prog_1_method_6_code 14 = .ok (.getfield 39, 3) := by decide +kernel
theorem d_F_set_17 : decode prog_1_method_6_code 17 = .ok (.getfield 111, 3) := by decide +kernel
theorem f_F_111_World : fok "FelledByNames" 111 4 7 := ⟨R_World, F_World, 14, "FelledByNames$World", rfl, i_World, by decide, tm 188 (by decide +kernel) rfl, Or.inl rfl, t_World, t_World_ok, n_World⟩
theorem d_F_set_20 : decode prog_1_method_6_code 20 = .ok (.istore_n 3, 1) := by decide +kernel
theorem d_F_set_21 : decode prog_1_method_6_code 21 = .ok (.aload_n 0, 1) := by decide +kernel
theorem d_F_set_22 : decode prog_1_method_6_code 22 = .ok (.getfield 39, 3) := by decide +kernel
theorem d_F_set_25 : decode prog_1_method_6_code 25 = .ok (.iload_n 2, 1) := by decide +kernel
theorem d_F_set_26 : decode prog_1_method_6_code 26 = .ok (.putfield 111, 3) := by decide +kernel
theorem d_F_set_29 : decode prog_1_method_6_code 29 = .ok (.goto 76, 3) := by decide +kernel
set_option maxRecDepth 100000 in
theorem c_F_set {x v : Int32} {l : Launch} {d n : Nat} {R W Z : Nat → Nat → Int32} {T : Nat → Nat → Nat} {kn : Kn} {h0 : HP} {Q : QT} (hT : TI T kn n) (hE : (wi x (nI 0) (nI 2) && wi v (nI 0) (if x = nI 0 then nI 15 else if x = nI 1 then nI 999 else nI 99999)) = false → Q (some (.int (-1000000000 - nI 1))) n (co (uA R 54 (upd (R 54) 1 (R 54 1 + nI 1))) W Z T kn h0)) (hOk : ∀ a, a ≤ 2 → x = nI a → wi v (nI 0) (if x = nI 0 then nI 15 else if x = nI 1 then nI 999 else nI 99999) = true → Q (some (.int (W 0 (2 + a)))) n (co R (uW W 0 (upd (W 0) (2 + a) v)) Z T kn h0)) : Ct l M_F_set (d + 2) 0 0 [.ref 0, .int x, .int v] n (co R W Z T kn h0) Q := by
  refine Ct.of (fun _ => trivial) (by decide) (Nat.le_of_ble_eq_true rfl) ?_
  refine V.iload_n d_F_set_0 rfl ?_
  refine V.if_ne (tgt := 32) d_F_set_1 (by decide) (fun c_1 => ?_) (fun c_1 => ?_)
  · skip
    refine V.iload_n d_F_set_32 rfl ?_
    refine V.iconst_ (nI 1) d_F_set_33 (by decide +kernel) ?_
    refine V.icmp_ne (tgt := 66) d_F_set_34 (by decide) (fun c_34 => ?_) (fun c_34 => ?_)
    · skip
      refine V.iload_n d_F_set_66 rfl ?_
      refine V.iconst_ (nI 2) d_F_set_67 (by decide +kernel) ?_
      refine V.icmp_ne (tgt := 99) d_F_set_68 (by decide) (fun c_68 => ?_) (fun c_68 => ?_)
      · skip
        refine V.aload_n d_F_set_99 rfl ?_
        refine V.iconst_ (nI 1) d_F_set_100 (by decide +kernel) ?_
        refine V.callV1 d_F_set_101 k_F_97_F_error_FV (co_s sc_ob) (Nat.le_of_ble_eq_true rfl) (by omega) (by omega) (c_F_error (by decide) ?_)
        refine V.iret d_F_set_104 rfl (by omega) (by omega) ?_
        refine hE (set_f (fun z => ?_))
        rcases z with ⟨z1, z2⟩ | ⟨z1, z2⟩ | ⟨z1, z2⟩ <;> first | exact absurd z1 c_1 | exact absurd z1 c_34 | exact absurd z1 c_68 | exact absurd z2 (by rw [c_10]; decide) | exact absurd z2 (by rw [c_44]; decide) | exact absurd z2 (by rw [c_77]; decide)
      · skip
        refine V.iload_n d_F_set_71 rfl ?_
        refine V.ldc (v := 99999) d_F_set_72 (tm 504 (by decide +kernel) rfl) ?_
        refine V.top (y := nI 99999) rfl ?_
        refine V.callS2 d_F_set_74 k_F_94_F_withinS (Nat.le_of_ble_eq_true rfl) (by omega) (by omega) (c_F_within ?_)
        refine V.ifeqB (tgt := 99) d_F_set_77 (by decide) (fun c_77 => ?_) (fun c_77 => ?_)
        · skip
          refine V.aload_n d_F_set_99 rfl ?_
          refine V.iconst_ (nI 1) d_F_set_100 (by decide +kernel) ?_
          refine V.callV1 d_F_set_101 k_F_97_F_error_FV (co_s sc_ob) (Nat.le_of_ble_eq_true rfl) (by omega) (by omega) (c_F_error (by decide) ?_)
          refine V.iret d_F_set_104 rfl (by omega) (by omega) ?_
          refine hE (set_f (fun z => ?_))
          rcases z with ⟨z1, z2⟩ | ⟨z1, z2⟩ | ⟨z1, z2⟩ <;> first | exact absurd z1 c_1 | exact absurd z1 c_34 | exact absurd z1 c_68 | exact absurd z2 (by rw [c_10]; decide) | exact absurd z2 (by rw [c_44]; decide) | exact absurd z2 (by rw [c_77]; decide)
        · skip
          refine V.aload_n d_F_set_80 rfl ?_
          refine V.get d_F_set_81 f_F_39_F (co_s sc_ob) rfl ?_
          refine V.get d_F_set_84 f_F_118_World (co_s (sc_wd (wb_ds 0 (by decide)).1)) rfl ?_
          refine V.istore_n d_F_set_87 (by decide) ?_
          refine V.aload_n d_F_set_88 rfl ?_
          refine V.get d_F_set_89 f_F_39_F (co_s sc_ob) rfl ?_
          refine V.iload_n d_F_set_92 rfl ?_
          refine V.put d_F_set_93 f_F_118_World fp_World_9 (fun _ => rfl) (fun _ => rfl) (co_s (sc_wd (wb_ds 0 (by decide)).1)) (Nat.le_of_ble_eq_true rfl) ?_
          refine V.eqH (co_uwd (w := 0) (j := 4) (by decide) (by decide)) ?_
          refine V.goto (tgt := 105) d_F_set_96 (by decide) ?_
          refine V.iload_n d_F_set_105 rfl ?_
          refine V.iret d_F_set_106 rfl (by omega) (by omega) ?_
          exact hOk 2 (by omega) c_68 (by rw [c_68, if_neg (by decide), if_neg (by decide)]; exact c_77)
    · skip
      refine V.iload_n d_F_set_37 rfl ?_
      refine V.sipush_ (nI 999) d_F_set_38 (by decide +kernel) ?_
      refine V.callS2 d_F_set_41 k_F_94_F_withinS (Nat.le_of_ble_eq_true rfl) (by omega) (by omega) (c_F_within ?_)
      refine V.ifeqB (tgt := 66) d_F_set_44 (by decide) (fun c_44 => ?_) (fun c_44 => ?_)
      · skip
        refine V.iload_n d_F_set_66 rfl ?_
        refine V.iconst_ (nI 2) d_F_set_67 (by decide +kernel) ?_
        refine V.icmp_ne (tgt := 99) d_F_set_68 (by decide) (fun c_68 => ?_) (fun c_68 => ?_)
        · skip
          refine V.aload_n d_F_set_99 rfl ?_
          refine V.iconst_ (nI 1) d_F_set_100 (by decide +kernel) ?_
          refine V.callV1 d_F_set_101 k_F_97_F_error_FV (co_s sc_ob) (Nat.le_of_ble_eq_true rfl) (by omega) (by omega) (c_F_error (by decide) ?_)
          refine V.iret d_F_set_104 rfl (by omega) (by omega) ?_
          refine hE (set_f (fun z => ?_))
          rcases z with ⟨z1, z2⟩ | ⟨z1, z2⟩ | ⟨z1, z2⟩ <;> first | exact absurd z1 c_1 | exact absurd z1 c_34 | exact absurd z1 c_68 | exact absurd z2 (by rw [c_10]; decide) | exact absurd z2 (by rw [c_44]; decide) | exact absurd z2 (by rw [c_77]; decide)
        · skip
          refine V.iload_n d_F_set_71 rfl ?_
          refine V.ldc (v := 99999) d_F_set_72 (tm 504 (by decide +kernel) rfl) ?_
          refine V.top (y := nI 99999) rfl ?_
          refine V.callS2 d_F_set_74 k_F_94_F_withinS (Nat.le_of_ble_eq_true rfl) (by omega) (by omega) (c_F_within ?_)
          refine V.ifeqB (tgt := 99) d_F_set_77 (by decide) (fun c_77 => ?_) (fun c_77 => ?_)
          · skip
            refine V.aload_n d_F_set_99 rfl ?_
            refine V.iconst_ (nI 1) d_F_set_100 (by decide +kernel) ?_
            refine V.callV1 d_F_set_101 k_F_97_F_error_FV (co_s sc_ob) (Nat.le_of_ble_eq_true rfl) (by omega) (by omega) (c_F_error (by decide) ?_)
            refine V.iret d_F_set_104 rfl (by omega) (by omega) ?_
            refine hE (set_f (fun z => ?_))
            rcases z with ⟨z1, z2⟩ | ⟨z1, z2⟩ | ⟨z1, z2⟩ <;> first | exact absurd z1 c_1 | exact absurd z1 c_34 | exact absurd z1 c_68 | exact absurd z2 (by rw [c_10]; decide) | exact absurd z2 (by rw [c_44]; decide) | exact absurd z2 (by rw [c_77]; decide)
          · skip
            refine V.aload_n d_F_set_80 rfl ?_
            refine V.get d_F_set_81 f_F_39_F (co_s sc_ob) rfl ?_
            refine V.get d_F_set_84 f_F_118_World (co_s (sc_wd (wb_ds 0 (by decide)).1)) rfl ?_
            refine V.istore_n d_F_set_87 (by decide) ?_
            refine V.aload_n d_F_set_88 rfl ?_
            refine V.get d_F_set_89 f_F_39_F (co_s sc_ob) rfl ?_
            refine V.iload_n d_F_set_92 rfl ?_
            refine V.put d_F_set_93 f_F_118_World fp_World_9 (fun _ => rfl) (fun _ => rfl) (co_s (sc_wd (wb_ds 0 (by decide)).1)) (Nat.le_of_ble_eq_true rfl) ?_
            refine V.eqH (co_uwd (w := 0) (j := 4) (by decide) (by decide)) ?_
            refine V.goto (tgt := 105) d_F_set_96 (by decide) ?_
            refine V.iload_n d_F_set_105 rfl ?_
            refine V.iret d_F_set_106 rfl (by omega) (by omega) ?_
            exact hOk 2 (by omega) c_68 (by rw [c_68, if_neg (by decide), if_neg (by decide)]; exact c_77)
      · skip
        refine V.aload_n d_F_set_47 rfl ?_
        refine V.get d_F_set_48 f_F_39_F (co_s sc_ob) rfl ?_
        refine V.get d_F_set_51 f_F_114_World (co_s (sc_wd (wb_ds 0 (by decide)).1)) rfl ?_
        refine V.istore_n d_F_set_54 (by decide) ?_
        refine V.aload_n d_F_set_55 rfl ?_
        refine V.get d_F_set_56 f_F_39_F (co_s sc_ob) rfl ?_
        refine V.iload_n d_F_set_59 rfl ?_
        refine V.put d_F_set_60 f_F_114_World fp_World_8 (fun _ => rfl) (fun _ => rfl) (co_s (sc_wd (wb_ds 0 (by decide)).1)) (Nat.le_of_ble_eq_true rfl) ?_
        refine V.eqH (co_uwd (w := 0) (j := 3) (by decide) (by decide)) ?_
        refine V.goto (tgt := 105) d_F_set_63 (by decide) ?_
        refine V.iload_n d_F_set_105 rfl ?_
        refine V.iret d_F_set_106 rfl (by omega) (by omega) ?_
        exact hOk 1 (by omega) c_34 (by rw [c_34, if_neg (by decide), if_pos rfl]; exact c_44)
  · skip
    refine V.iload_n d_F_set_4 rfl ?_
    refine V.bipush_ (nI 15) d_F_set_5 (by decide +kernel) ?_
    refine V.callS2 d_F_set_7 k_F_94_F_withinS (Nat.le_of_ble_eq_true rfl) (by omega) (by omega) (c_F_within ?_)
    refine V.ifeqB (tgt := 32) d_F_set_10 (by decide) (fun c_10 => ?_) (fun c_10 => ?_)
    · skip
      refine V.iload_n d_F_set_32 rfl ?_
      refine V.iconst_ (nI 1) d_F_set_33 (by decide +kernel) ?_
      refine V.icmp_ne (tgt := 66) d_F_set_34 (by decide) (fun c_34 => ?_) (fun c_34 => ?_)
      · skip
        refine V.iload_n d_F_set_66 rfl ?_
        refine V.iconst_ (nI 2) d_F_set_67 (by decide +kernel) ?_
        refine V.icmp_ne (tgt := 99) d_F_set_68 (by decide) (fun c_68 => ?_) (fun c_68 => ?_)
        · skip
          refine V.aload_n d_F_set_99 rfl ?_
          refine V.iconst_ (nI 1) d_F_set_100 (by decide +kernel) ?_
          refine V.callV1 d_F_set_101 k_F_97_F_error_FV (co_s sc_ob) (Nat.le_of_ble_eq_true rfl) (by omega) (by omega) (c_F_error (by decide) ?_)
          refine V.iret d_F_set_104 rfl (by omega) (by omega) ?_
          refine hE (set_f (fun z => ?_))
          rcases z with ⟨z1, z2⟩ | ⟨z1, z2⟩ | ⟨z1, z2⟩ <;> first | exact absurd z1 c_1 | exact absurd z1 c_34 | exact absurd z1 c_68 | exact absurd z2 (by rw [c_10]; decide) | exact absurd z2 (by rw [c_44]; decide) | exact absurd z2 (by rw [c_77]; decide)
        · skip
          refine V.iload_n d_F_set_71 rfl ?_
          refine V.ldc (v := 99999) d_F_set_72 (tm 504 (by decide +kernel) rfl) ?_
          refine V.top (y := nI 99999) rfl ?_
          refine V.callS2 d_F_set_74 k_F_94_F_withinS (Nat.le_of_ble_eq_true rfl) (by omega) (by omega) (c_F_within ?_)
          refine V.ifeqB (tgt := 99) d_F_set_77 (by decide) (fun c_77 => ?_) (fun c_77 => ?_)
          · skip
            refine V.aload_n d_F_set_99 rfl ?_
            refine V.iconst_ (nI 1) d_F_set_100 (by decide +kernel) ?_
            refine V.callV1 d_F_set_101 k_F_97_F_error_FV (co_s sc_ob) (Nat.le_of_ble_eq_true rfl) (by omega) (by omega) (c_F_error (by decide) ?_)
            refine V.iret d_F_set_104 rfl (by omega) (by omega) ?_
            refine hE (set_f (fun z => ?_))
            rcases z with ⟨z1, z2⟩ | ⟨z1, z2⟩ | ⟨z1, z2⟩ <;> first | exact absurd z1 c_1 | exact absurd z1 c_34 | exact absurd z1 c_68 | exact absurd z2 (by rw [c_10]; decide) | exact absurd z2 (by rw [c_44]; decide) | exact absurd z2 (by rw [c_77]; decide)
          · skip
            refine V.aload_n d_F_set_80 rfl ?_
            refine V.get d_F_set_81 f_F_39_F (co_s sc_ob) rfl ?_
            refine V.get d_F_set_84 f_F_118_World (co_s (sc_wd (wb_ds 0 (by decide)).1)) rfl ?_
            refine V.istore_n d_F_set_87 (by decide) ?_
            refine V.aload_n d_F_set_88 rfl ?_
            refine V.get d_F_set_89 f_F_39_F (co_s sc_ob) rfl ?_
            refine V.iload_n d_F_set_92 rfl ?_
            refine V.put d_F_set_93 f_F_118_World fp_World_9 (fun _ => rfl) (fun _ => rfl) (co_s (sc_wd (wb_ds 0 (by decide)).1)) (Nat.le_of_ble_eq_true rfl) ?_
            refine V.eqH (co_uwd (w := 0) (j := 4) (by decide) (by decide)) ?_
            refine V.goto (tgt := 105) d_F_set_96 (by decide) ?_
            refine V.iload_n d_F_set_105 rfl ?_
            refine V.iret d_F_set_106 rfl (by omega) (by omega) ?_
            exact hOk 2 (by omega) c_68 (by rw [c_68, if_neg (by decide), if_neg (by decide)]; exact c_77)
      · skip
        refine V.iload_n d_F_set_37 rfl ?_
        refine V.sipush_ (nI 999) d_F_set_38 (by decide +kernel) ?_
        refine V.callS2 d_F_set_41 k_F_94_F_withinS (Nat.le_of_ble_eq_true rfl) (by omega) (by omega) (c_F_within ?_)
        refine V.ifeqB (tgt := 66) d_F_set_44 (by decide) (fun c_44 => ?_) (fun c_44 => ?_)
        · skip
          refine V.iload_n d_F_set_66 rfl ?_
          refine V.iconst_ (nI 2) d_F_set_67 (by decide +kernel) ?_
          refine V.icmp_ne (tgt := 99) d_F_set_68 (by decide) (fun c_68 => ?_) (fun c_68 => ?_)
          · skip
            refine V.aload_n d_F_set_99 rfl ?_
            refine V.iconst_ (nI 1) d_F_set_100 (by decide +kernel) ?_
            refine V.callV1 d_F_set_101 k_F_97_F_error_FV (co_s sc_ob) (Nat.le_of_ble_eq_true rfl) (by omega) (by omega) (c_F_error (by decide) ?_)
            refine V.iret d_F_set_104 rfl (by omega) (by omega) ?_
            refine hE (set_f (fun z => ?_))
            rcases z with ⟨z1, z2⟩ | ⟨z1, z2⟩ | ⟨z1, z2⟩ <;> first | exact absurd z1 c_1 | exact absurd z1 c_34 | exact absurd z1 c_68 | exact absurd z2 (by rw [c_10]; decide) | exact absurd z2 (by rw [c_44]; decide) | exact absurd z2 (by rw [c_77]; decide)
          · skip
            refine V.iload_n d_F_set_71 rfl ?_
            refine V.ldc (v := 99999) d_F_set_72 (tm 504 (by decide +kernel) rfl) ?_
            refine V.top (y := nI 99999) rfl ?_
            refine V.callS2 d_F_set_74 k_F_94_F_withinS (Nat.le_of_ble_eq_true rfl) (by omega) (by omega) (c_F_within ?_)
            refine V.ifeqB (tgt := 99) d_F_set_77 (by decide) (fun c_77 => ?_) (fun c_77 => ?_)
            · skip
              refine V.aload_n d_F_set_99 rfl ?_
              refine V.iconst_ (nI 1) d_F_set_100 (by decide +kernel) ?_
              refine V.callV1 d_F_set_101 k_F_97_F_error_FV (co_s sc_ob) (Nat.le_of_ble_eq_true rfl) (by omega) (by omega) (c_F_error (by decide) ?_)
              refine V.iret d_F_set_104 rfl (by omega) (by omega) ?_
              refine hE (set_f (fun z => ?_))
              rcases z with ⟨z1, z2⟩ | ⟨z1, z2⟩ | ⟨z1, z2⟩ <;> first | exact absurd z1 c_1 | exact absurd z1 c_34 | exact absurd z1 c_68 | exact absurd z2 (by rw [c_10]; decide) | exact absurd z2 (by rw [c_44]; decide) | exact absurd z2 (by rw [c_77]; decide)
            · skip
              refine V.aload_n d_F_set_80 rfl ?_
              refine V.get d_F_set_81 f_F_39_F (co_s sc_ob) rfl ?_
              refine V.get d_F_set_84 f_F_118_World (co_s (sc_wd (wb_ds 0 (by decide)).1)) rfl ?_
              refine V.istore_n d_F_set_87 (by decide) ?_
              refine V.aload_n d_F_set_88 rfl ?_
              refine V.get d_F_set_89 f_F_39_F (co_s sc_ob) rfl ?_
              refine V.iload_n d_F_set_92 rfl ?_
              refine V.put d_F_set_93 f_F_118_World fp_World_9 (fun _ => rfl) (fun _ => rfl) (co_s (sc_wd (wb_ds 0 (by decide)).1)) (Nat.le_of_ble_eq_true rfl) ?_
              refine V.eqH (co_uwd (w := 0) (j := 4) (by decide) (by decide)) ?_
              refine V.goto (tgt := 105) d_F_set_96 (by decide) ?_
              refine V.iload_n d_F_set_105 rfl ?_
              refine V.iret d_F_set_106 rfl (by omega) (by omega) ?_
              exact hOk 2 (by omega) c_68 (by rw [c_68, if_neg (by decide), if_neg (by decide)]; exact c_77)
        · skip
          refine V.aload_n d_F_set_47 rfl ?_
          refine V.get d_F_set_48 f_F_39_F (co_s sc_ob) rfl ?_
          refine V.get d_F_set_51 f_F_114_World (co_s (sc_wd (wb_ds 0 (by decide)).1)) rfl ?_
          refine V.istore_n d_F_set_54 (by decide) ?_
          refine V.aload_n d_F_set_55 rfl ?_
          refine V.get d_F_set_56 f_F_39_F (co_s sc_ob) rfl ?_
          refine V.iload_n d_F_set_59 rfl ?_
          refine V.put d_F_set_60 f_F_114_World fp_World_8 (fun _ => rfl) (fun _ => rfl) (co_s (sc_wd (wb_ds 0 (by decide)).1)) (Nat.le_of_ble_eq_true rfl) ?_
          refine V.eqH (co_uwd (w := 0) (j := 3) (by decide) (by decide)) ?_
          refine V.goto (tgt := 105) d_F_set_63 (by decide) ?_
          refine V.iload_n d_F_set_105 rfl ?_
          refine V.iret d_F_set_106 rfl (by omega) (by omega) ?_
          exact hOk 1 (by omega) c_34 (by rw [c_34, if_neg (by decide), if_pos rfl]; exact c_44)
    · skip
      refine V.aload_n d_F_set_13 rfl ?_
      refine V.get d_F_set_14 f_F_39_F (co_s sc_ob) rfl ?_
      refine V.get d_F_set_17 f_F_111_World (co_s (sc_wd (wb_ds 0 (by decide)).1)) rfl ?_
      refine V.istore_n d_F_set_20 (by decide) ?_
      refine V.aload_n d_F_set_21 rfl ?_
      refine V.get d_F_set_22 f_F_39_F (co_s sc_ob) rfl ?_
      refine V.iload_n d_F_set_25 rfl ?_
      refine V.put d_F_set_26 f_F_111_World fp_World_7 (fun _ => rfl) (fun _ => rfl) (co_s (sc_wd (wb_ds 0 (by decide)).1)) (Nat.le_of_ble_eq_true rfl) ?_
      refine V.eqH (co_uwd (w := 0) (j := 2) (by decide) (by decide)) ?_
      refine V.goto (tgt := 105) d_F_set_29 (by decide) ?_
      refine V.iload_n d_F_set_105 rfl ?_
      refine V.iret d_F_set_106 rfl (by omega) (by omega) ?_
      exact hOk 0 (by omega) c_1 (by rw [if_pos (show x = nI 0 from c_1)]; exact c_10)
abbrev M_F_seed : MD := (⟨"FelledByNames", "seed", "(I)I"⟩, prog_1_method_29_code, 3, (some .int), fun _ => True)
theorem d_F_seed_0 : decode prog_1_method_29_code 0 = .ok (.aload_n 0, 1) := by decide +kernel
theorem d_F_seed_1 : decode prog_1_method_29_code 1 = .ok (.getfield 39, 3) := by decide +kernel
theorem d_F_seed_4 : decode prog_1_method_29_code 4 = .ok (.getfield 267, 3) := by decide +kernel
theorem f_F_267_World : fok "FelledByNames" 267 4 10 := ⟨R_World, F_World, 14, "FelledByNames$World", rfl, i_World, by decide, tm 194 (by decide +kernel) rfl, Or.inl rfl, t_World, t_World_ok, n_World⟩
theorem d_F_seed_7 : decode prog_1_method_29_code 7 = .ok (.istore_n 2, 1) := by decide +kernel
theorem d_F_seed_8 : decode prog_1_method_29_code 8 = .ok (.aload_n 0, 1) := by decide +kernel
theorem d_F_seed_9 : decode prog_1_method_29_code 9 = .ok (.getfield 39, 3) := by decide +kernel
theorem d_F_seed_12 : decode prog_1_method_29_code 12 = .ok (.iload_n 1, 1) := by decide +kernel
theorem d_F_seed_13 : decode prog_1_method_29_code 13 = .ok (.putfield 267, 3) := by decide +kernel
theorem d_F_seed_16 : decode prog_1_method_29_code 16 = .ok (.iload_n 2, 1) := by decide +kernel
theorem d_F_seed_17 : decode prog_1_method_29_code 17 = .ok (.ireturn, 1) := by decide +kernel
set_option maxRecDepth 100000 in
theorem c_F_seed {v : Int32} {l : Launch} {d n : Nat} {R W Z : Nat → Nat → Int32} {T : Nat → Nat → Nat} {kn : Kn} {h0 : HP} {Q : QT} (hT : TI T kn n) (hQ : Q (some (.int (W 0 5))) n (co R (uW W 0 (upd (W 0) 5 v)) Z T kn h0)) : Ct l M_F_seed d 0 0 [.ref 0, .int v] n (co R W Z T kn h0) Q := by
  refine Ct.of (fun _ => trivial) (by decide) (Nat.le_of_ble_eq_true rfl) ?_
  refine V.aload_n d_F_seed_0 rfl ?_
  refine V.get d_F_seed_1 f_F_39_F (co_s sc_ob) rfl ?_
  refine V.get d_F_seed_4 f_F_267_World (co_s (sc_wd (wb_ds 0 (by decide)).1)) rfl ?_
  refine V.istore_n d_F_seed_7 (by decide) ?_
  refine V.aload_n d_F_seed_8 rfl ?_
  refine V.get d_F_seed_9 f_F_39_F (co_s sc_ob) rfl ?_
  refine V.iload_n d_F_seed_12 rfl ?_
  refine V.put d_F_seed_13 f_F_267_World fp_World_10 (fun _ => rfl) (fun _ => rfl) (co_s (sc_wd (wb_ds 0 (by decide)).1)) (Nat.le_of_ble_eq_true rfl) ?_
  refine V.eqH (co_uwd (w := 0) (j := 5) (by decide) (by decide)) ?_
  refine V.iload_n d_F_seed_16 rfl ?_
  refine V.iret d_F_seed_17 rfl (by omega) (by omega) ?_
  exact hQ
abbrev M_F_trace : MD := (⟨"FelledByNames", "trace", "(I)I"⟩, prog_1_method_31_code, 2, (some .int), fun _ => True)
theorem d_F_trace_0 : decode prog_1_method_31_code 0 = .ok (.aload_n 0, 1) := by decide +kernel
theorem d_F_trace_1 : decode prog_1_method_31_code 1 = .ok (.getfield 49, 3) := by decide +kernel
theorem f_F_49_F : fok "FelledByNames" 49 0 6 := ⟨R_F, F_F, 15, "FelledByNames", rfl, i_F, by decide, tm 430 (by decide +kernel) rfl, Or.inl rfl, t_F, t_F_ok, n_F⟩
theorem d_F_trace_4 : decode prog_1_method_31_code 4 = .ok (.iload_n 1, 1) := by decide +kernel
theorem d_F_trace_5 : decode prog_1_method_31_code 5 = .ok (.invokevirtual 283, 3) := by decide +kernel
theorem kB_Row_has : kB M_Row_has 1 := ⟨tm 2 (by decide +kernel) rfl, tm 982 (by decide +kernel) rfl, ⟨by decide, by decide, by decide +kernel⟩, by decide⟩
theorem k_F_283_Row_has_RowV : kV "FelledByNames" 283 1 M_Row_has 1 := ⟨kB_Row_has, tm 977 (by decide +kernel) rfl, tm 978 (by decide +kernel) rfl, tm 979 (by decide +kernel) rfl, _, rfl, rfl⟩
theorem d_F_trace_8 : decode prog_1_method_31_code 8 = .ok (.ifCond .eq 14, 3) := by decide +kernel
theorem d_F_trace_22 : decode prog_1_method_31_code 22 = .ok (.aload_n 0, 1) := by decide +kernel
theorem d_F_trace_23 : decode prog_1_method_31_code 23 = .ok (.iconst 2, 1) := by decide +kernel
theorem d_F_trace_24 : decode prog_1_method_31_code 24 = .ok (.invokevirtual 97, 3) := by decide +kernel
theorem d_F_trace_27 : decode prog_1_method_31_code 27 = .ok (.ireturn, 1) := by decide +kernel
theorem d_F_trace_11 : decode prog_1_method_31_code 11 = .ok (.aload_n 0, 1) := by decide +kernel
theorem d_F_trace_12 : decode prog_1_method_31_code 12 = .ok (.getfield 49, 3) := by decide +kernel
theorem d_F_trace_15 : decode prog_1_method_31_code 15 = .ok (.iload_n 1, 1) := by decide +kernel
theorem d_F_trace_16 : decode prog_1_method_31_code 16 = .ok (.invokevirtual 260, 3) := by decide +kernel
theorem k_F_260_Row_get_RowV : kV "FelledByNames" 260 1 M_Row_get 1 := ⟨kB_Row_get, tm 866 (by decide +kernel) rfl, tm 304 (by decide +kernel) rfl, tm 305 (by decide +kernel) rfl, _, rfl, rfl⟩
theorem d_F_trace_19 : decode prog_1_method_31_code 19 = .ok (.goto 8, 3) := by decide +kernel
set_option maxRecDepth 100000 in
theorem c_F_trace {tm : Nat} {x : Int32} {l : Launch} {d n : Nat} {R W Z : Nat → Nat → Int32} {T : Nat → Nat → Nat} {kn : Kn} {h0 : HP} {Q : QT} (htm : tm ≤ 40) (et : Z 51 1 = nI tm) (hE : wh x (nI tm) = false → Q (some (.int (-1000000000 - nI 2))) n (co (uA R 54 (upd (R 54) 2 (R 54 2 + nI 1))) W Z T kn h0)) (hOk : wh x (nI tm) = true → Q (some (.int (rgt (R 52) (nI tm) x))) n (co R W Z T kn h0)) : Ct l M_F_trace (d + 2) 0 0 [.ref 0, .int x] n (co R W Z T kn h0) Q := by
  refine Ct.of (fun _ => trivial) (by decide) (Nat.le_of_ble_eq_true rfl) ?_
  refine V.aload_n d_F_trace_0 rfl ?_
  refine V.get d_F_trace_1 f_F_49_F (co_s sc_ob) rfl ?_
  refine V.iload_n d_F_trace_4 rfl ?_
  refine V.callV1 d_F_trace_5 k_F_283_Row_has_RowV (co_s (sc_rw rfl)) (Nat.le_of_ble_eq_true rfl) (by omega) (by omega) (c_Row_has (a := 51) (N := 40) (sz := tm) rfl rfl et htm (by decide) ?_)
  refine V.ifeqB (tgt := 22) d_F_trace_8 (by decide) (fun c_8 => ?_) (fun c_8 => ?_)
  · skip
    refine V.aload_n d_F_trace_22 rfl ?_
    refine V.iconst_ (nI 2) d_F_trace_23 (by decide +kernel) ?_
    refine V.callV1 d_F_trace_24 k_F_97_F_error_FV (co_s sc_ob) (Nat.le_of_ble_eq_true rfl) (by omega) (by omega) (c_F_error (by decide) ?_)
    refine V.iret d_F_trace_27 rfl (by omega) (by omega) ?_
    first | exact hOk c_8 | exact hE c_8
  · skip
    refine V.aload_n d_F_trace_11 rfl ?_
    refine V.get d_F_trace_12 f_F_49_F (co_s sc_ob) rfl ?_
    refine V.iload_n d_F_trace_15 rfl ?_
    refine V.callV1 d_F_trace_16 k_F_260_Row_get_RowV (co_s (sc_rw rfl)) (Nat.le_of_ble_eq_true rfl) (by omega) (by omega) (c_Row_get (a := 51) (N := 40) (sz := tm) rfl rfl et htm (by decide) ?_)
    refine V.goto (tgt := 27) d_F_trace_19 (by decide) ?_
    refine V.iret d_F_trace_27 rfl (by omega) (by omega) ?_
    first | exact hOk c_8 | exact hE c_8
abbrev M_F_told : MD := (⟨"FelledByNames", "told", "(I)I"⟩, prog_1_method_42_code, 2, (some .int), fun _ => True)
theorem d_F_told_0 : decode prog_1_method_42_code 0 = .ok (.iload_n 1, 1) := by decide +kernel
theorem d_F_told_1 : decode prog_1_method_42_code 1 = .ok (.iconst 1, 1) := by decide +kernel
theorem d_F_told_2 : decode prog_1_method_42_code 2 = .ok (.if_icmp .lt 8, 3) := by decide +kernel
theorem d_F_told_10 : decode prog_1_method_42_code 10 = .ok (.aload_n 0, 1) := by decide +kernel
theorem d_F_told_11 : decode prog_1_method_42_code 11 = .ok (.iconst 1, 1) := by decide +kernel
theorem d_F_told_12 : decode prog_1_method_42_code 12 = .ok (.invokevirtual 97, 3) := by decide +kernel
theorem d_F_told_15 : decode prog_1_method_42_code 15 = .ok (.ireturn, 1) := by decide +kernel
theorem d_F_told_5 : decode prog_1_method_42_code 5 = .ok (.iload_n 1, 1) := by decide +kernel
theorem d_F_told_6 : decode prog_1_method_42_code 6 = .ok (.iconst 5, 1) := by decide +kernel
theorem d_F_told_7 : decode prog_1_method_42_code 7 = .ok (.if_icmp .le 9, 3) := by decide +kernel
theorem d_F_told_16 : decode prog_1_method_42_code 16 = .ok (.aload_n 0, 1) := by decide +kernel
theorem d_F_told_17 : decode prog_1_method_42_code 17 = .ok (.getfield 58, 3) := by decide +kernel
theorem d_F_told_20 : decode prog_1_method_42_code 20 = .ok (.iload_n 1, 1) := by decide +kernel
theorem d_F_told_21 : decode prog_1_method_42_code 21 = .ok (.iaload, 1) := by decide +kernel
theorem d_F_told_22 : decode prog_1_method_42_code 22 = .ok (.ireturn, 1) := by decide +kernel
set_option maxRecDepth 100000 in
theorem c_F_told {x : Int32} {l : Launch} {d n : Nat} {R W Z : Nat → Nat → Int32} {T : Nat → Nat → Nat} {kn : Kn} {h0 : HP} {Q : QT} (hE : ¬ (nI 1 ≤ x ∧ x ≤ nI 5) → Q (some (.int (-1000000000 - nI 1))) n (co (uA R 54 (upd (R 54) 1 (R 54 1 + nI 1))) W Z T kn h0)) (hOk : ∀ i, 1 ≤ i → i ≤ 5 → x = nI i → Q (some (.int (R 54 i))) n (co R W Z T kn h0)) : Ct l M_F_told (d + 2) 0 0 [.ref 0, .int x] n (co R W Z T kn h0) Q := by
  refine Ct.of (fun _ => trivial) (by decide) (Nat.le_of_ble_eq_true rfl) ?_
  refine V.iload_n d_F_told_0 rfl ?_
  refine V.iconst_ (nI 1) d_F_told_1 (by decide +kernel) ?_
  refine V.icmp_lt (tgt := 10) d_F_told_2 (by decide) (fun c_2 => ?_) (fun c_2 => ?_)
  · skip
    refine V.aload_n d_F_told_10 rfl ?_
    refine V.iconst_ (nI 1) d_F_told_11 (by decide +kernel) ?_
    refine V.callV1 d_F_told_12 k_F_97_F_error_FV (co_s sc_ob) (Nat.le_of_ble_eq_true rfl) (by omega) (by omega) (c_F_error (by decide) ?_)
    refine V.iret d_F_told_15 rfl (by omega) (by omega) ?_
    first | exact hE (fun z => absurd z.1 (Int32.not_le.mpr c_2)) | exact hE (fun z => c_7 z.2)
  · skip
    refine V.iload_n d_F_told_5 rfl ?_
    refine V.iconst_ (nI 5) d_F_told_6 (by decide +kernel) ?_
    refine V.icmp_le (tgt := 16) d_F_told_7 (by decide) (fun c_7 => ?_) (fun c_7 => ?_)
    · skip
      obtain ⟨i, hi1, hi5, rfl⟩ := wi_nat1 (k := 5) (by decide) (show wi x (nI 1) (nI 5) = true by unfold wi; rw [decide_eq_true (Int32.not_lt.mp c_2), decide_eq_true c_7]; rfl)
      refine V.aload_n d_F_told_16 rfl ?_
      refine V.get d_F_told_17 f_F_58_F (co_s sc_ob) rfl ?_
      refine V.iload_n d_F_told_20 rfl ?_
      refine V.ialdN d_F_told_21 (co_s (sc_ar rfl)) (by omega) (by omega) ?_
      refine V.iret d_F_told_22 rfl (by omega) (by omega) ?_
      exact hOk i hi1 hi5 rfl
    · skip
      refine V.aload_n d_F_told_10 rfl ?_
      refine V.iconst_ (nI 1) d_F_told_11 (by decide +kernel) ?_
      refine V.callV1 d_F_told_12 k_F_97_F_error_FV (co_s sc_ob) (Nat.le_of_ble_eq_true rfl) (by omega) (by omega) (c_F_error (by decide) ?_)
      refine V.iret d_F_told_15 rfl (by omega) (by omega) ?_
      first | exact hE (fun z => absurd z.1 (Int32.not_le.mpr c_2)) | exact hE (fun z => c_7 z.2)
abbrev M_F_tell : MD := (⟨"FelledByNames", "tell", "(I)I"⟩, prog_1_method_39_code, 2, (some .int), fun _ => True)
theorem d_F_tell_0 : decode prog_1_method_39_code 0 = .ok (.aload_n 0, 1) := by decide +kernel
theorem d_F_tell_1 : decode prog_1_method_39_code 1 = .ok (.getfield 46, 3) := by decide +kernel
theorem f_F_46_F : fok "FelledByNames" 46 0 5 := ⟨R_F, F_F, 15, "FelledByNames", rfl, i_F, by decide, tm 429 (by decide +kernel) rfl, Or.inl rfl, t_F, t_F_ok, n_F⟩
theorem d_F_tell_4 : decode prog_1_method_39_code 4 = .ok (.getfield 181, 3) := by decide +kernel
theorem f_F_181_Row : fok "FelledByNames" 181 1 1 := ⟨R_Row, F_Row, 2, "FelledByNames$Row", rfl, i_Row, by decide, tm 51 (by decide +kernel) rfl, Or.inl rfl, t_Row, t_Row_ok, n_Row⟩
theorem d_F_tell_7 : decode prog_1_method_39_code 7 = .ok (.bipush 20, 2) := by decide +kernel
theorem d_F_tell_9 : decode prog_1_method_39_code 9 = .ok (.if_icmp .lt 9, 3) := by decide +kernel
theorem d_F_tell_18 : decode prog_1_method_39_code 18 = .ok (.aload_n 0, 1) := by decide +kernel
theorem d_F_tell_19 : decode prog_1_method_39_code 19 = .ok (.getfield 46, 3) := by decide +kernel
theorem d_F_tell_22 : decode prog_1_method_39_code 22 = .ok (.iload_n 1, 1) := by decide +kernel
theorem d_F_tell_23 : decode prog_1_method_39_code 23 = .ok (.invokevirtual 184, 3) := by decide +kernel
theorem k_F_184_Row_add_RowV : kV "FelledByNames" 184 1 M_Row_add 1 := ⟨kB_Row_add, tm 682 (by decide +kernel) rfl, tm 170 (by decide +kernel) rfl, tm 171 (by decide +kernel) rfl, _, rfl, rfl⟩
theorem d_F_tell_26 : decode prog_1_method_39_code 26 = .ok (.aload_n 0, 1) := by decide +kernel
theorem d_F_tell_27 : decode prog_1_method_39_code 27 = .ok (.getfield 46, 3) := by decide +kernel
theorem d_F_tell_30 : decode prog_1_method_39_code 30 = .ok (.getfield 181, 3) := by decide +kernel
theorem d_F_tell_33 : decode prog_1_method_39_code 33 = .ok (.ireturn, 1) := by decide +kernel
theorem d_F_tell_12 : decode prog_1_method_39_code 12 = .ok (.aload_n 0, 1) := by decide +kernel
theorem d_F_tell_13 : decode prog_1_method_39_code 13 = .ok (.iconst 4, 1) := by decide +kernel
theorem d_F_tell_14 : decode prog_1_method_39_code 14 = .ok (.invokevirtual 97, 3) := by decide +kernel
theorem d_F_tell_17 : decode prog_1_method_39_code 17 = .ok (.ireturn, 1) := by decide +kernel
set_option maxRecDepth 100000 in
theorem c_F_tell {w0 : Nat} {v : Int32} {l : Launch} {d n : Nat} {R W Z : Nat → Nat → Int32} {T : Nat → Nat → Nat} {kn : Kn} {h0 : HP} {Q : QT} (hw0 : w0 ≤ 20) (ew : Z 49 1 = nI w0) (hF : w0 = 20 → Q (some (.int (-1000000000 - nI 4))) n (co (uA R 54 (upd (R 54) 4 (R 54 4 + nI 1))) W Z T kn h0)) (hOk : w0 < 20 → Q (some (.int (nI (w0 + 1)))) n (co (uA R 50 (upd (R 50) w0 v)) W (uZ Z 49 1 (nI (w0 + 1))) T kn h0)) : Ct l M_F_tell (d + 2) 0 0 [.ref 0, .int v] n (co R W Z T kn h0) Q := by
  refine Ct.of (fun _ => trivial) (by decide) (Nat.le_of_ble_eq_true rfl) ?_
  refine V.aload_n d_F_tell_0 rfl ?_
  refine V.get d_F_tell_1 f_F_46_F (co_s sc_ob) rfl ?_
  refine V.get d_F_tell_4 f_F_181_Row (co_s (sc_rw rfl)) rfl ?_
  refine V.top (y := nI w0) (ew) ?_
  refine V.bipush_ (nI 20) d_F_tell_7 (by decide +kernel) ?_
  refine V.ltN (tgt := 18) d_F_tell_9 (by decide) (by omega) (by omega) (fun c_9 => ?_) (fun c_9 => ?_)
  · skip
    refine V.aload_n d_F_tell_18 rfl ?_
    refine V.get d_F_tell_19 f_F_46_F (co_s sc_ob) rfl ?_
    refine V.iload_n d_F_tell_22 rfl ?_
    refine V.callV1 d_F_tell_23 k_F_184_Row_add_RowV (co_s (sc_rw rfl)) (Nat.le_of_ble_eq_true rfl) (by omega) (by omega) (c_Row_add (a := 49) (N := 20) (sz := w0) rfl rfl ew hw0 (by decide) (fun hlt => ?_) (fun z => absurd z (by omega)))
    refine V.aload_n d_F_tell_26 rfl ?_
    refine V.get d_F_tell_27 f_F_46_F (co_s sc_ob) rfl ?_
    refine V.get d_F_tell_30 f_F_181_Row (co_s (sc_rw rfl)) rfl ?_
    rw [uZ_s]
    refine V.iret d_F_tell_33 rfl (by omega) (by omega) ?_
    exact hOk hlt
  · skip
    refine V.aload_n d_F_tell_12 rfl ?_
    refine V.iconst_ (nI 4) d_F_tell_13 (by decide +kernel) ?_
    refine V.callV1 d_F_tell_14 k_F_97_F_error_FV (co_s sc_ob) (Nat.le_of_ble_eq_true rfl) (by omega) (by omega) (c_F_error (by decide) ?_)
    refine V.iret d_F_tell_17 rfl (by omega) (by omega) ?_
    exact hF (by omega)
