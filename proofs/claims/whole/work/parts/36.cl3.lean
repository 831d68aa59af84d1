abbrev M_Tree_init : MD := (⟨"FelledByNames$Tree", "<init>", "(II)V"⟩, prog_10_method_1_code, 3, none, fun _ => True)
theorem d_Tree_init_0 : decode prog_10_method_1_code 0 = .ok (.aload_n 0, 1) := by decide +kernel
theorem d_Tree_init_1 : decode prog_10_method_1_code 1 = .ok (.invokespecial 1, 3) := by decide +kernel
theorem d_Tree_init_4 : decode prog_10_method_1_code 4 = .ok (.aload_n 0, 1) := by decide +kernel
theorem d_Tree_init_5 : decode prog_10_method_1_code 5 = .ok (.iconst 0, 1) := by decide +kernel
theorem d_Tree_init_6 : decode prog_10_method_1_code 6 = .ok (.putfield 7, 3) := by decide +kernel
theorem fp_Tree_2 : fpk 6 2 (.int) := ⟨_, _, _, rfl, rfl, by decide +kernel⟩
theorem d_Tree_init_9 : decode prog_10_method_1_code 9 = .ok (.aload_n 0, 1) := by decide +kernel
theorem d_Tree_init_10 : decode prog_10_method_1_code 10 = .ok (.iconst 0, 1) := by decide +kernel
theorem d_Tree_init_11 : decode prog_10_method_1_code 11 = .ok (.putfield 13, 3) := by decide +kernel
theorem f_Tree_13_Tree : fok "FelledByNames$Tree" 13 6 3 := ⟨R_Tree, F_Tree, 8, "FelledByNames$Tree", rfl, i_Tree, by decide, tm 135 (by decide +kernel) rfl, Or.inl rfl, t_Tree, t_Tree_ok, n_Tree⟩
theorem fp_Tree_3 : fpk 6 3 (.int) := ⟨_, _, _, rfl, rfl, by decide +kernel⟩
theorem d_Tree_init_14 : decode prog_10_method_1_code 14 = .ok (.aload_n 0, 1) := by decide +kernel
theorem d_Tree_init_15 : decode prog_10_method_1_code 15 = .ok (.iconst 1, 1) := by decide +kernel
theorem d_Tree_init_16 : decode prog_10_method_1_code 16 = .ok (.putfield 16, 3) := by decide +kernel
theorem f_Tree_16_Tree : fok "FelledByNames$Tree" 16 6 4 := ⟨R_Tree, F_Tree, 8, "FelledByNames$Tree", rfl, i_Tree, by decide, tm 138 (by decide +kernel) rfl, Or.inl rfl, t_Tree, t_Tree_ok, n_Tree⟩
theorem fp_Tree_4 : fpk 6 4 (.int) := ⟨_, _, _, rfl, rfl, by decide +kernel⟩
theorem d_Tree_init_19 : decode prog_10_method_1_code 19 = .ok (.aload_n 0, 1) := by decide +kernel
theorem d_Tree_init_20 : decode prog_10_method_1_code 20 = .ok (.iconst 0, 1) := by decide +kernel
theorem d_Tree_init_21 : decode prog_10_method_1_code 21 = .ok (.putfield 19, 3) := by decide +kernel
theorem f_Tree_19_Tree : fok "FelledByNames$Tree" 19 6 5 := ⟨R_Tree, F_Tree, 8, "FelledByNames$Tree", rfl, i_Tree, by decide, tm 141 (by decide +kernel) rfl, Or.inl rfl, t_Tree, t_Tree_ok, n_Tree⟩
theorem fp_Tree_5 : fpk 6 5 (.int) := ⟨_, _, _, rfl, rfl, by decide +kernel⟩
theorem d_Tree_init_24 : decode prog_10_method_1_code 24 = .ok (.aload_n 0, 1) := by decide +kernel
theorem d_Tree_init_25 : decode prog_10_method_1_code 25 = .ok (.iconst 0, 1) := by decide +kernel
theorem d_Tree_init_26 : decode prog_10_method_1_code 26 = .ok (.putfield 22, 3) := by decide +kernel
theorem fp_Tree_6 : fpk 6 6 (.int) := ⟨_, _, _, rfl, rfl, by decide +kernel⟩
theorem d_Tree_init_29 : decode prog_10_method_1_code 29 = .ok (.aload_n 0, 1) := by decide +kernel
theorem d_Tree_init_30 : decode prog_10_method_1_code 30 = .ok (.iconst 1, 1) := by decide +kernel
theorem d_Tree_init_31 : decode prog_10_method_1_code 31 = .ok (.putfield 25, 3) := by decide +kernel
theorem f_Tree_25_Tree : fok "FelledByNames$Tree" 25 6 7 := ⟨R_Tree, F_Tree, 8, "FelledByNames$Tree", rfl, i_Tree, by decide, tm 149 (by decide +kernel) rfl, Or.inl rfl, t_Tree, t_Tree_ok, n_Tree⟩
theorem fp_Tree_7 : fpk 6 7 (.boolean) := ⟨_, _, _, rfl, rfl, by decide +kernel⟩
theorem d_Tree_init_34 : decode prog_10_method_1_code 34 = .ok (.aload_n 0, 1) := by decide +kernel
theorem d_Tree_init_35 : decode prog_10_method_1_code 35 = .ok (.iload_n 1, 1) := by decide +kernel
theorem d_Tree_init_36 : decode prog_10_method_1_code 36 = .ok (.putfield 29, 3) := by decide +kernel
theorem f_Tree_29_Tree : fok "FelledByNames$Tree" 29 6 0 := ⟨R_Tree, F_Tree, 8, "FelledByNames$Tree", rfl, i_Tree, by decide, tm 120 (by decide +kernel) rfl, Or.inl rfl, t_Tree, t_Tree_ok, n_Tree⟩
theorem fF_Tree_Tree_0 : fpF "FelledByNames$Tree" 6 0 (.int) := ⟨_, _, _, rfl, rfl, rfl, by decide +kernel⟩
theorem d_Tree_init_39 : decode prog_10_method_1_code 39 = .ok (.aload_n 0, 1) := by decide +kernel
theorem d_Tree_init_40 : decode prog_10_method_1_code 40 = .ok (.iload_n 2, 1) := by decide +kernel
theorem d_Tree_init_41 : decode prog_10_method_1_code 41 = .ok (.putfield 32, 3) := by decide +kernel
theorem fF_Tree_Tree_1 : fpF "FelledByNames$Tree" 6 1 (.int) := ⟨_, _, _, rfl, rfl, rfl, by decide +kernel⟩
theorem d_Tree_init_44 : decode prog_10_method_1_code 44 = .ok (.return_, 1) := by decide +kernel
set_option maxRecDepth 100000 in
theorem c_Tree_init_0 {b : Nat} {x y : Int32} {l : Launch} {d n : Nat} {h : HP} {Q : QT} (hb : h b = some (.inr (6, [.int 0, .int 0, .int 0, .int 0, .int 0, .int 0, .int 0, .int 0]))) (hQ : Q none n (up h b (.inr (6, [.int x, .int y, .int (nI 0), .int (nI 0), .int (nI 1), .int (nI 0), .int (nI 0), .int (nI 1)])))) : Ct l M_Tree_init (d + 1) 0 0 [.ref b, .int x, .int y] n h Q := by
  refine Ct.of (fun _ => trivial) (by decide) (Nat.le_of_ble_eq_true rfl) ?_
  refine V.aload_n d_Tree_init_0 rfl ?_
  refine V.objInit d_Tree_init_1 ⟨tm 119 (by decide +kernel) rfl, tm 29 (by decide +kernel) rfl, tm 30 (by decide +kernel) rfl⟩ (Nat.le_of_ble_eq_true rfl) ?_
  refine V.aload_n d_Tree_init_4 rfl ?_
  refine V.iconst_ (nI 0) d_Tree_init_5 (by decide +kernel) ?_
  refine V.put d_Tree_init_6 f_Tree_7_Tree fp_Tree_2 (fun _ => rfl) (fun _ => rfl) hb (Nat.le_of_ble_eq_true rfl) ?_
  refine V.aload_n d_Tree_init_9 rfl ?_
  refine V.iconst_ (nI 0) d_Tree_init_10 (by decide +kernel) ?_
  refine V.put d_Tree_init_11 f_Tree_13_Tree fp_Tree_3 (fun _ => rfl) (fun _ => rfl) up_s (Nat.le_of_ble_eq_true rfl) ?_
  refine V.aload_n d_Tree_init_14 rfl ?_
  refine V.iconst_ (nI 1) d_Tree_init_15 (by decide +kernel) ?_
  refine V.put d_Tree_init_16 f_Tree_16_Tree fp_Tree_4 (fun _ => rfl) (fun _ => rfl) up_s (Nat.le_of_ble_eq_true rfl) ?_
  refine V.aload_n d_Tree_init_19 rfl ?_
  refine V.iconst_ (nI 0) d_Tree_init_20 (by decide +kernel) ?_
  refine V.put d_Tree_init_21 f_Tree_19_Tree fp_Tree_5 (fun _ => rfl) (fun _ => rfl) up_s (Nat.le_of_ble_eq_true rfl) ?_
  refine V.aload_n d_Tree_init_24 rfl ?_
  refine V.iconst_ (nI 0) d_Tree_init_25 (by decide +kernel) ?_
  refine V.put d_Tree_init_26 f_Tree_22_Tree fp_Tree_6 (fun _ => rfl) (fun _ => rfl) up_s (Nat.le_of_ble_eq_true rfl) ?_
  refine V.aload_n d_Tree_init_29 rfl ?_
  refine V.iconst_ (nI 1) d_Tree_init_30 (by decide +kernel) ?_
  refine V.put d_Tree_init_31 f_Tree_25_Tree fp_Tree_7 (fun _ => rfl) (fun _ => rfl) up_s (Nat.le_of_ble_eq_true rfl) ?_
  refine V.aload_n d_Tree_init_34 rfl ?_
  refine V.iload_n d_Tree_init_35 rfl ?_
  refine V.putF d_Tree_init_36 f_Tree_29_Tree fF_Tree_Tree_0 rfl (fun _ => rfl) (fun _ => rfl) up_s (Nat.le_of_ble_eq_true rfl) ?_
  refine V.aload_n d_Tree_init_39 rfl ?_
  refine V.iload_n d_Tree_init_40 rfl ?_
  refine V.putF d_Tree_init_41 f_Tree_32_Tree fF_Tree_Tree_1 rfl (fun _ => rfl) (fun _ => rfl) up_s (Nat.le_of_ble_eq_true rfl) ?_
  refine V.vret d_Tree_init_44 rfl (Nat.le_of_ble_eq_true rfl) (Nat.le_of_ble_eq_true rfl) ?_
  simp only [up_uu]
  exact hQ
theorem fp_Beech_2 : fpk 7 2 (.int) := ⟨_, _, _, rfl, rfl, by decide +kernel⟩
theorem f_Tree_13_Beech : fok "FelledByNames$Tree" 13 7 3 := ⟨R_Beech, F_Beech, 8, "FelledByNames$Tree", rfl, i_Beech, by decide, tm 135 (by decide +kernel) rfl, Or.inl rfl, t_Beech, t_Beech_ok, n_Beech⟩
theorem fp_Beech_3 : fpk 7 3 (.int) := ⟨_, _, _, rfl, rfl, by decide +kernel⟩
theorem f_Tree_16_Beech : fok "FelledByNames$Tree" 16 7 4 := ⟨R_Beech, F_Beech, 8, "FelledByNames$Tree", rfl, i_Beech, by decide, tm 138 (by decide +kernel) rfl, Or.inl rfl, t_Beech, t_Beech_ok, n_Beech⟩
theorem fp_Beech_4 : fpk 7 4 (.int) := ⟨_, _, _, rfl, rfl, by decide +kernel⟩
theorem f_Tree_19_Beech : fok "FelledByNames$Tree" 19 7 5 := ⟨R_Beech, F_Beech, 8, "FelledByNames$Tree", rfl, i_Beech, by decide, tm 141 (by decide +kernel) rfl, Or.inl rfl, t_Beech, t_Beech_ok, n_Beech⟩
theorem fp_Beech_5 : fpk 7 5 (.int) := ⟨_, _, _, rfl, rfl, by decide +kernel⟩
theorem fp_Beech_6 : fpk 7 6 (.int) := ⟨_, _, _, rfl, rfl, by decide +kernel⟩
theorem f_Tree_25_Beech : fok "FelledByNames$Tree" 25 7 7 := ⟨R_Beech, F_Beech, 8, "FelledByNames$Tree", rfl, i_Beech, by decide, tm 149 (by decide +kernel) rfl, Or.inl rfl, t_Beech, t_Beech_ok, n_Beech⟩
theorem fp_Beech_7 : fpk 7 7 (.boolean) := ⟨_, _, _, rfl, rfl, by decide +kernel⟩
theorem f_Tree_29_Beech : fok "FelledByNames$Tree" 29 7 0 := ⟨R_Beech, F_Beech, 8, "FelledByNames$Tree", rfl, i_Beech, by decide, tm 120 (by decide +kernel) rfl, Or.inl rfl, t_Beech, t_Beech_ok, n_Beech⟩
theorem fF_Tree_Beech_0 : fpF "FelledByNames$Tree" 7 0 (.int) := ⟨_, _, _, rfl, rfl, rfl, by decide +kernel⟩
theorem fF_Tree_Beech_1 : fpF "FelledByNames$Tree" 7 1 (.int) := ⟨_, _, _, rfl, rfl, rfl, by decide +kernel⟩
set_option maxRecDepth 100000 in
theorem c_Tree_init_1 {b : Nat} {x y : Int32} {l : Launch} {d n : Nat} {h : HP} {Q : QT} (hb : h b = some (.inr (7, [.int 0, .int 0, .int 0, .int 0, .int 0, .int 0, .int 0, .int 0]))) (hQ : Q none n (up h b (.inr (7, [.int x, .int y, .int (nI 0), .int (nI 0), .int (nI 1), .int (nI 0), .int (nI 0), .int (nI 1)])))) : Ct l M_Tree_init (d + 1) 0 0 [.ref b, .int x, .int y] n h Q := by
  refine Ct.of (fun _ => trivial) (by decide) (Nat.le_of_ble_eq_true rfl) ?_
  refine V.aload_n d_Tree_init_0 rfl ?_
  refine V.objInit d_Tree_init_1 ⟨tm 119 (by decide +kernel) rfl, tm 29 (by decide +kernel) rfl, tm 30 (by decide +kernel) rfl⟩ (Nat.le_of_ble_eq_true rfl) ?_
  refine V.aload_n d_Tree_init_4 rfl ?_
  refine V.iconst_ (nI 0) d_Tree_init_5 (by decide +kernel) ?_
  refine V.put d_Tree_init_6 f_Tree_7_Beech fp_Beech_2 (fun _ => rfl) (fun _ => rfl) hb (Nat.le_of_ble_eq_true rfl) ?_
  refine V.aload_n d_Tree_init_9 rfl ?_
  refine V.iconst_ (nI 0) d_Tree_init_10 (by decide +kernel) ?_
  refine V.put d_Tree_init_11 f_Tree_13_Beech fp_Beech_3 (fun _ => rfl) (fun _ => rfl) up_s (Nat.le_of_ble_eq_true rfl) ?_
  refine V.aload_n d_Tree_init_14 rfl ?_
  refine V.iconst_ (nI 1) d_Tree_init_15 (by decide +kernel) ?_
  refine V.put d_Tree_init_16 f_Tree_16_Beech fp_Beech_4 (fun _ => rfl) (fun _ => rfl) up_s (Nat.le_of_ble_eq_true rfl) ?_
  refine V.aload_n d_Tree_init_19 rfl ?_
  refine V.iconst_ (nI 0) d_Tree_init_20 (by decide +kernel) ?_
  refine V.put d_Tree_init_21 f_Tree_19_Beech fp_Beech_5 (fun _ => rfl) (fun _ => rfl) up_s (Nat.le_of_ble_eq_true rfl) ?_
  refine V.aload_n d_Tree_init_24 rfl ?_
  refine V.iconst_ (nI 0) d_Tree_init_25 (by decide +kernel) ?_
  refine V.put d_Tree_init_26 f_Tree_22_Beech fp_Beech_6 (fun _ => rfl) (fun _ => rfl) up_s (Nat.le_of_ble_eq_true rfl) ?_
  refine V.aload_n d_Tree_init_29 rfl ?_
  refine V.iconst_ (nI 1) d_Tree_init_30 (by decide +kernel) ?_
  refine V.put d_Tree_init_31 f_Tree_25_Beech fp_Beech_7 (fun _ => rfl) (fun _ => rfl) up_s (Nat.le_of_ble_eq_true rfl) ?_
  refine V.aload_n d_Tree_init_34 rfl ?_
  refine V.iload_n d_Tree_init_35 rfl ?_
  refine V.putF d_Tree_init_36 f_Tree_29_Beech fF_Tree_Beech_0 rfl (fun _ => rfl) (fun _ => rfl) up_s (Nat.le_of_ble_eq_true rfl) ?_
  refine V.aload_n d_Tree_init_39 rfl ?_
  refine V.iload_n d_Tree_init_40 rfl ?_
  refine V.putF d_Tree_init_41 f_Tree_32_Beech fF_Tree_Beech_1 rfl (fun _ => rfl) (fun _ => rfl) up_s (Nat.le_of_ble_eq_true rfl) ?_
  refine V.vret d_Tree_init_44 rfl (Nat.le_of_ble_eq_true rfl) (Nat.le_of_ble_eq_true rfl) ?_
  simp only [up_uu]
  exact hQ
theorem fp_Oak_2 : fpk 8 2 (.int) := ⟨_, _, _, rfl, rfl, by decide +kernel⟩
theorem f_Tree_13_Oak : fok "FelledByNames$Tree" 13 8 3 := ⟨R_Oak, F_Oak, 8, "FelledByNames$Tree", rfl, i_Oak, by decide, tm 135 (by decide +kernel) rfl, Or.inl rfl, t_Oak, t_Oak_ok, n_Oak⟩
theorem fp_Oak_3 : fpk 8 3 (.int) := ⟨_, _, _, rfl, rfl, by decide +kernel⟩
theorem f_Tree_16_Oak : fok "FelledByNames$Tree" 16 8 4 := ⟨R_Oak, F_Oak, 8, "FelledByNames$Tree", rfl, i_Oak, by decide, tm 138 (by decide +kernel) rfl, Or.inl rfl, t_Oak, t_Oak_ok, n_Oak⟩
theorem fp_Oak_4 : fpk 8 4 (.int) := ⟨_, _, _, rfl, rfl, by decide +kernel⟩
theorem f_Tree_19_Oak : fok "FelledByNames$Tree" 19 8 5 := ⟨R_Oak, F_Oak, 8, "FelledByNames$Tree", rfl, i_Oak, by decide, tm 141 (by decide +kernel) rfl, Or.inl rfl, t_Oak, t_Oak_ok, n_Oak⟩
theorem fp_Oak_5 : fpk 8 5 (.int) := ⟨_, _, _, rfl, rfl, by decide +kernel⟩
theorem fp_Oak_6 : fpk 8 6 (.int) := ⟨_, _, _, rfl, rfl, by decide +kernel⟩
theorem f_Tree_25_Oak : fok "FelledByNames$Tree" 25 8 7 := ⟨R_Oak, F_Oak, 8, "FelledByNames$Tree", rfl, i_Oak, by decide, tm 149 (by decide +kernel) rfl, Or.inl rfl, t_Oak, t_Oak_ok, n_Oak⟩
theorem fp_Oak_7 : fpk 8 7 (.boolean) := ⟨_, _, _, rfl, rfl, by decide +kernel⟩
theorem f_Tree_29_Oak : fok "FelledByNames$Tree" 29 8 0 := ⟨R_Oak, F_Oak, 8, "FelledByNames$Tree", rfl, i_Oak, by decide, tm 120 (by decide +kernel) rfl, Or.inl rfl, t_Oak, t_Oak_ok, n_Oak⟩
theorem fF_Tree_Oak_0 : fpF "FelledByNames$Tree" 8 0 (.int) := ⟨_, _, _, rfl, rfl, rfl, by decide +kernel⟩
theorem fF_Tree_Oak_1 : fpF "FelledByNames$Tree" 8 1 (.int) := ⟨_, _, _, rfl, rfl, rfl, by decide +kernel⟩
set_option maxRecDepth 100000 in
theorem c_Tree_init_2 {b : Nat} {x y : Int32} {l : Launch} {d n : Nat} {h : HP} {Q : QT} (hb : h b = some (.inr (8, [.int 0, .int 0, .int 0, .int 0, .int 0, .int 0, .int 0, .int 0]))) (hQ : Q none n (up h b (.inr (8, [.int x, .int y, .int (nI 0), .int (nI 0), .int (nI 1), .int (nI 0), .int (nI 0), .int (nI 1)])))) : Ct l M_Tree_init (d + 1) 0 0 [.ref b, .int x, .int y] n h Q := by
  refine Ct.of (fun _ => trivial) (by decide) (Nat.le_of_ble_eq_true rfl) ?_
  refine V.aload_n d_Tree_init_0 rfl ?_
  refine V.objInit d_Tree_init_1 ⟨tm 119 (by decide +kernel) rfl, tm 29 (by decide +kernel) rfl, tm 30 (by decide +kernel) rfl⟩ (Nat.le_of_ble_eq_true rfl) ?_
  refine V.aload_n d_Tree_init_4 rfl ?_
  refine V.iconst_ (nI 0) d_Tree_init_5 (by decide +kernel) ?_
  refine V.put d_Tree_init_6 f_Tree_7_Oak fp_Oak_2 (fun _ => rfl) (fun _ => rfl) hb (Nat.le_of_ble_eq_true rfl) ?_
  refine V.aload_n d_Tree_init_9 rfl ?_
  refine V.iconst_ (nI 0) d_Tree_init_10 (by decide +kernel) ?_
  refine V.put d_Tree_init_11 f_Tree_13_Oak fp_Oak_3 (fun _ => rfl) (fun _ => rfl) up_s (Nat.le_of_ble_eq_true rfl) ?_
  refine V.aload_n d_Tree_init_14 rfl ?_
  refine V.iconst_ (nI 1) d_Tree_init_15 (by decide +kernel) ?_
  refine V.put d_Tree_init_16 f_Tree_16_Oak fp_Oak_4 (fun _ => rfl) (fun _ => rfl) up_s (Nat.le_of_ble_eq_true rfl) ?_
  refine V.aload_n d_Tree_init_19 rfl ?_
  refine V.iconst_ (nI 0) d_Tree_init_20 (by decide +kernel) ?_
  refine V.put d_Tree_init_21 f_Tree_19_Oak fp_Oak_5 (fun _ => rfl) (fun _ => rfl) up_s (Nat.le_of_ble_eq_true rfl) ?_
  refine V.aload_n d_Tree_init_24 rfl ?_
  refine V.iconst_ (nI 0) d_Tree_init_25 (by decide +kernel) ?_
  refine V.put d_Tree_init_26 f_Tree_22_Oak fp_Oak_6 (fun _ => rfl) (fun _ => rfl) up_s (Nat.le_of_ble_eq_true rfl) ?_
  refine V.aload_n d_Tree_init_29 rfl ?_
  refine V.iconst_ (nI 1) d_Tree_init_30 (by decide +kernel) ?_
  refine V.put d_Tree_init_31 f_Tree_25_Oak fp_Oak_7 (fun _ => rfl) (fun _ => rfl) up_s (Nat.le_of_ble_eq_true rfl) ?_
  refine V.aload_n d_Tree_init_34 rfl ?_
  refine V.iload_n d_Tree_init_35 rfl ?_
  refine V.putF d_Tree_init_36 f_Tree_29_Oak fF_Tree_Oak_0 rfl (fun _ => rfl) (fun _ => rfl) up_s (Nat.le_of_ble_eq_true rfl) ?_
  refine V.aload_n d_Tree_init_39 rfl ?_
  refine V.iload_n d_Tree_init_40 rfl ?_
  refine V.putF d_Tree_init_41 f_Tree_32_Oak fF_Tree_Oak_1 rfl (fun _ => rfl) (fun _ => rfl) up_s (Nat.le_of_ble_eq_true rfl) ?_
  refine V.vret d_Tree_init_44 rfl (Nat.le_of_ble_eq_true rfl) (Nat.le_of_ble_eq_true rfl) ?_
  simp only [up_uu]
  exact hQ
theorem fp_Sapling_2 : fpk 9 2 (.int) := ⟨_, _, _, rfl, rfl, by decide +kernel⟩
theorem f_Tree_13_Sapling : fok "FelledByNames$Tree" 13 9 3 := ⟨R_Sapling, F_Sapling, 8, "FelledByNames$Tree", rfl, i_Sapling, by decide, tm 135 (by decide +kernel) rfl, Or.inl rfl, t_Sapling, t_Sapling_ok, n_Sapling⟩
theorem fp_Sapling_3 : fpk 9 3 (.int) := ⟨_, _, _, rfl, rfl, by decide +kernel⟩
theorem f_Tree_16_Sapling : fok "FelledByNames$Tree" 16 9 4 := ⟨R_Sapling, F_Sapling, 8, "FelledByNames$Tree", rfl, i_Sapling, by decide, tm 138 (by decide +kernel) rfl, Or.inl rfl, t_Sapling, t_Sapling_ok, n_Sapling⟩
theorem fp_Sapling_4 : fpk 9 4 (.int) := ⟨_, _, _, rfl, rfl, by decide +kernel⟩
theorem f_Tree_19_Sapling : fok "FelledByNames$Tree" 19 9 5 := ⟨R_Sapling, F_Sapling, 8, "FelledByNames$Tree", rfl, i_Sapling, by decide, tm 141 (by decide +kernel) rfl, Or.inl rfl, t_Sapling, t_Sapling_ok, n_Sapling⟩
theorem fp_Sapling_5 : fpk 9 5 (.int) := ⟨_, _, _, rfl, rfl, by decide +kernel⟩
theorem fp_Sapling_6 : fpk 9 6 (.int) := ⟨_, _, _, rfl, rfl, by decide +kernel⟩
theorem f_Tree_25_Sapling : fok "FelledByNames$Tree" 25 9 7 := ⟨R_Sapling, F_Sapling, 8, "FelledByNames$Tree", rfl, i_Sapling, by decide, tm 149 (by decide +kernel) rfl, Or.inl rfl, t_Sapling, t_Sapling_ok, n_Sapling⟩
theorem fp_Sapling_7 : fpk 9 7 (.boolean) := ⟨_, _, _, rfl, rfl, by decide +kernel⟩
theorem f_Tree_29_Sapling : fok "FelledByNames$Tree" 29 9 0 := ⟨R_Sapling, F_Sapling, 8, "FelledByNames$Tree", rfl, i_Sapling, by decide, tm 120 (by decide +kernel) rfl, Or.inl rfl, t_Sapling, t_Sapling_ok, n_Sapling⟩
theorem fF_Tree_Sapling_0 : fpF "FelledByNames$Tree" 9 0 (.int) := ⟨_, _, _, rfl, rfl, rfl, by decide +kernel⟩
theorem fF_Tree_Sapling_1 : fpF "FelledByNames$Tree" 9 1 (.int) := ⟨_, _, _, rfl, rfl, rfl, by decide +kernel⟩
set_option maxRecDepth 100000 in
theorem c_Tree_init_3 {b : Nat} {x y : Int32} {l : Launch} {d n : Nat} {h : HP} {Q : QT} (hb : h b = some (.inr (9, [.int 0, .int 0, .int 0, .int 0, .int 0, .int 0, .int 0, .int 0]))) (hQ : Q none n (up h b (.inr (9, [.int x, .int y, .int (nI 0), .int (nI 0), .int (nI 1), .int (nI 0), .int (nI 0), .int (nI 1)])))) : Ct l M_Tree_init (d + 1) 0 0 [.ref b, .int x, .int y] n h Q := by
  refine Ct.of (fun _ => trivial) (by decide) (Nat.le_of_ble_eq_true rfl) ?_
  refine V.aload_n d_Tree_init_0 rfl ?_
  refine V.objInit d_Tree_init_1 ⟨tm 119 (by decide +kernel) rfl, tm 29 (by decide +kernel) rfl, tm 30 (by decide +kernel) rfl⟩ (Nat.le_of_ble_eq_true rfl) ?_
  refine V.aload_n d_Tree_init_4 rfl ?_
  refine V.iconst_ (nI 0) d_Tree_init_5 (by decide +kernel) ?_
  refine V.put d_Tree_init_6 f_Tree_7_Sapling fp_Sapling_2 (fun _ => rfl) (fun _ => rfl) hb (Nat.le_of_ble_eq_true rfl) ?_
  refine V.aload_n d_Tree_init_9 rfl ?_
  refine V.iconst_ (nI 0) d_Tree_init_10 (by decide +kernel) ?_
  refine V.put d_Tree_init_11 f_Tree_13_Sapling fp_Sapling_3 (fun _ => rfl) (fun _ => rfl) up_s (Nat.le_of_ble_eq_true rfl) ?_
  refine V.aload_n d_Tree_init_14 rfl ?_
  refine V.iconst_ (nI 1) d_Tree_init_15 (by decide +kernel) ?_
  refine V.put d_Tree_init_16 f_Tree_16_Sapling fp_Sapling_4 (fun _ => rfl) (fun _ => rfl) up_s (Nat.le_of_ble_eq_true rfl) ?_
  refine V.aload_n d_Tree_init_19 rfl ?_
  refine V.iconst_ (nI 0) d_Tree_init_20 (by decide +kernel) ?_
  refine V.put d_Tree_init_21 f_Tree_19_Sapling fp_Sapling_5 (fun _ => rfl) (fun _ => rfl) up_s (Nat.le_of_ble_eq_true rfl) ?_
  refine V.aload_n d_Tree_init_24 rfl ?_
  refine V.iconst_ (nI 0) d_Tree_init_25 (by decide +kernel) ?_
  refine V.put d_Tree_init_26 f_Tree_22_Sapling fp_Sapling_6 (fun _ => rfl) (fun _ => rfl) up_s (Nat.le_of_ble_eq_true rfl) ?_
  refine V.aload_n d_Tree_init_29 rfl ?_
  refine V.iconst_ (nI 1) d_Tree_init_30 (by decide +kernel) ?_
  refine V.put d_Tree_init_31 f_Tree_25_Sapling fp_Sapling_7 (fun _ => rfl) (fun _ => rfl) up_s (Nat.le_of_ble_eq_true rfl) ?_
  refine V.aload_n d_Tree_init_34 rfl ?_
  refine V.iload_n d_Tree_init_35 rfl ?_
  refine V.putF d_Tree_init_36 f_Tree_29_Sapling fF_Tree_Sapling_0 rfl (fun _ => rfl) (fun _ => rfl) up_s (Nat.le_of_ble_eq_true rfl) ?_
  refine V.aload_n d_Tree_init_39 rfl ?_
  refine V.iload_n d_Tree_init_40 rfl ?_
  refine V.putF d_Tree_init_41 f_Tree_32_Sapling fF_Tree_Sapling_1 rfl (fun _ => rfl) (fun _ => rfl) up_s (Nat.le_of_ble_eq_true rfl) ?_
  refine V.vret d_Tree_init_44 rfl (Nat.le_of_ble_eq_true rfl) (Nat.le_of_ble_eq_true rfl) ?_
  simp only [up_uu]
  exact hQ
theorem fp_Wedged_2 : fpk 10 2 (.int) := ⟨_, _, _, rfl, rfl, by decide +kernel⟩
theorem f_Tree_13_Wedged : fok "FelledByNames$Tree" 13 10 3 := ⟨R_Wedged, F_Wedged, 8, "FelledByNames$Tree", rfl, i_Wedged, by decide, tm 135 (by decide +kernel) rfl, Or.inl rfl, t_Wedged, t_Wedged_ok, n_Wedged⟩
theorem fp_Wedged_3 : fpk 10 3 (.int) := ⟨_, _, _, rfl, rfl, by decide +kernel⟩
theorem f_Tree_16_Wedged : fok "FelledByNames$Tree" 16 10 4 := ⟨R_Wedged, F_Wedged, 8, "FelledByNames$Tree", rfl, i_Wedged, by decide, tm 138 (by decide +kernel) rfl, Or.inl rfl, t_Wedged, t_Wedged_ok, n_Wedged⟩
theorem fp_Wedged_4 : fpk 10 4 (.int) := ⟨_, _, _, rfl, rfl, by decide +kernel⟩
theorem f_Tree_19_Wedged : fok "FelledByNames$Tree" 19 10 5 := ⟨R_Wedged, F_Wedged, 8, "FelledByNames$Tree", rfl, i_Wedged, by decide, tm 141 (by decide +kernel) rfl, Or.inl rfl, t_Wedged, t_Wedged_ok, n_Wedged⟩
theorem fp_Wedged_5 : fpk 10 5 (.int) := ⟨_, _, _, rfl, rfl, by decide +kernel⟩
theorem fp_Wedged_6 : fpk 10 6 (.int) := ⟨_, _, _, rfl, rfl, by decide +kernel⟩
theorem f_Tree_25_Wedged : fok "FelledByNames$Tree" 25 10 7 := ⟨R_Wedged, F_Wedged, 8, "FelledByNames$Tree", rfl, i_Wedged, by decide, tm 149 (by decide +kernel) rfl, Or.inl rfl, t_Wedged, t_Wedged_ok, n_Wedged⟩
theorem fp_Wedged_7 : fpk 10 7 (.boolean) := ⟨_, _, _, rfl, rfl, by decide +kernel⟩
theorem f_Tree_29_Wedged : fok "FelledByNames$Tree" 29 10 0 := ⟨R_Wedged, F_Wedged, 8, "FelledByNames$Tree", rfl, i_Wedged, by decide, tm 120 (by decide +kernel) rfl, Or.inl rfl, t_Wedged, t_Wedged_ok, n_Wedged⟩
theorem fF_Tree_Wedged_0 : fpF "FelledByNames$Tree" 10 0 (.int) := ⟨_, _, _, rfl, rfl, rfl, by decide +kernel⟩
theorem fF_Tree_Wedged_1 : fpF "FelledByNames$Tree" 10 1 (.int) := ⟨_, _, _, rfl, rfl, rfl, by decide +kernel⟩
set_option maxRecDepth 100000 in
theorem c_Tree_init_4 {b : Nat} {x y : Int32} {l : Launch} {d n : Nat} {h : HP} {Q : QT} (hb : h b = some (.inr (10, [.int 0, .int 0, .int 0, .int 0, .int 0, .int 0, .int 0, .int 0]))) (hQ : Q none n (up h b (.inr (10, [.int x, .int y, .int (nI 0), .int (nI 0), .int (nI 1), .int (nI 0), .int (nI 0), .int (nI 1)])))) : Ct l M_Tree_init (d + 1) 0 0 [.ref b, .int x, .int y] n h Q := by
  refine Ct.of (fun _ => trivial) (by decide) (Nat.le_of_ble_eq_true rfl) ?_
  refine V.aload_n d_Tree_init_0 rfl ?_
  refine V.objInit d_Tree_init_1 ⟨tm 119 (by decide +kernel) rfl, tm 29 (by decide +kernel) rfl, tm 30 (by decide +kernel) rfl⟩ (Nat.le_of_ble_eq_true rfl) ?_
  refine V.aload_n d_Tree_init_4 rfl ?_
  refine V.iconst_ (nI 0) d_Tree_init_5 (by decide +kernel) ?_
  refine V.put d_Tree_init_6 f_Tree_7_Wedged fp_Wedged_2 (fun _ => rfl) (fun _ => rfl) hb (Nat.le_of_ble_eq_true rfl) ?_
  refine V.aload_n d_Tree_init_9 rfl ?_
  refine V.iconst_ (nI 0) d_Tree_init_10 (by decide +kernel) ?_
  refine V.put d_Tree_init_11 f_Tree_13_Wedged fp_Wedged_3 (fun _ => rfl) (fun _ => rfl) up_s (Nat.le_of_ble_eq_true rfl) ?_
  refine V.aload_n d_Tree_init_14 rfl ?_
  refine V.iconst_ (nI 1) d_Tree_init_15 (by decide +kernel) ?_
  refine V.put d_Tree_init_16 f_Tree_16_Wedged fp_Wedged_4 (fun _ => rfl) (fun _ => rfl) up_s (Nat.le_of_ble_eq_true rfl) ?_
  refine V.aload_n d_Tree_init_19 rfl ?_
  refine V.iconst_ (nI 0) d_Tree_init_20 (by decide +kernel) ?_
  refine V.put d_Tree_init_21 f_Tree_19_Wedged fp_Wedged_5 (fun _ => rfl) (fun _ => rfl) up_s (Nat.le_of_ble_eq_true rfl) ?_
  refine V.aload_n d_Tree_init_24 rfl ?_
  refine V.iconst_ (nI 0) d_Tree_init_25 (by decide +kernel) ?_
  refine V.put d_Tree_init_26 f_Tree_22_Wedged fp_Wedged_6 (fun _ => rfl) (fun _ => rfl) up_s (Nat.le_of_ble_eq_true rfl) ?_
  refine V.aload_n d_Tree_init_29 rfl ?_
  refine V.iconst_ (nI 1) d_Tree_init_30 (by decide +kernel) ?_
  refine V.put d_Tree_init_31 f_Tree_25_Wedged fp_Wedged_7 (fun _ => rfl) (fun _ => rfl) up_s (Nat.le_of_ble_eq_true rfl) ?_
  refine V.aload_n d_Tree_init_34 rfl ?_
  refine V.iload_n d_Tree_init_35 rfl ?_
  refine V.putF d_Tree_init_36 f_Tree_29_Wedged fF_Tree_Wedged_0 rfl (fun _ => rfl) (fun _ => rfl) up_s (Nat.le_of_ble_eq_true rfl) ?_
  refine V.aload_n d_Tree_init_39 rfl ?_
  refine V.iload_n d_Tree_init_40 rfl ?_
  refine V.putF d_Tree_init_41 f_Tree_32_Wedged fF_Tree_Wedged_1 rfl (fun _ => rfl) (fun _ => rfl) up_s (Nat.le_of_ble_eq_true rfl) ?_
  refine V.vret d_Tree_init_44 rfl (Nat.le_of_ble_eq_true rfl) (Nat.le_of_ble_eq_true rfl) ?_
  simp only [up_uu]
  exact hQ
theorem fp_Hollow_2 : fpk 11 2 (.int) := ⟨_, _, _, rfl, rfl, by decide +kernel⟩
theorem f_Tree_13_Hollow : fok "FelledByNames$Tree" 13 11 3 := ⟨R_Hollow, F_Hollow, 8, "FelledByNames$Tree", rfl, i_Hollow, by decide, tm 135 (by decide +kernel) rfl, Or.inl rfl, t_Hollow, t_Hollow_ok, n_Hollow⟩
theorem fp_Hollow_3 : fpk 11 3 (.int) := ⟨_, _, _, rfl, rfl, by decide +kernel⟩
theorem f_Tree_16_Hollow : fok "FelledByNames$Tree" 16 11 4 := ⟨R_Hollow, F_Hollow, 8, "FelledByNames$Tree", rfl, i_Hollow, by decide, tm 138 (by decide +kernel) rfl, Or.inl rfl, t_Hollow, t_Hollow_ok, n_Hollow⟩
theorem fp_Hollow_4 : fpk 11 4 (.int) := ⟨_, _, _, rfl, rfl, by decide +kernel⟩
theorem f_Tree_19_Hollow : fok "FelledByNames$Tree" 19 11 5 := ⟨R_Hollow, F_Hollow, 8, "FelledByNames$Tree", rfl, i_Hollow, by decide, tm 141 (by decide +kernel) rfl, Or.inl rfl, t_Hollow, t_Hollow_ok, n_Hollow⟩
theorem fp_Hollow_5 : fpk 11 5 (.int) := ⟨_, _, _, rfl, rfl, by decide +kernel⟩
theorem fp_Hollow_6 : fpk 11 6 (.int) := ⟨_, _, _, rfl, rfl, by decide +kernel⟩
theorem f_Tree_25_Hollow : fok "FelledByNames$Tree" 25 11 7 := ⟨R_Hollow, F_Hollow, 8, "FelledByNames$Tree", rfl, i_Hollow, by decide, tm 149 (by decide +kernel) rfl, Or.inl rfl, t_Hollow, t_Hollow_ok, n_Hollow⟩
theorem fp_Hollow_7 : fpk 11 7 (.boolean) := ⟨_, _, _, rfl, rfl, by decide +kernel⟩
theorem f_Tree_29_Hollow : fok "FelledByNames$Tree" 29 11 0 := ⟨R_Hollow, F_Hollow, 8, "FelledByNames$Tree", rfl, i_Hollow, by decide, tm 120 (by decide +kernel) rfl, Or.inl rfl, t_Hollow, t_Hollow_ok, n_Hollow⟩
theorem fF_Tree_Hollow_0 : fpF "FelledByNames$Tree" 11 0 (.int) := ⟨_, _, _, rfl, rfl, rfl, by decide +kernel⟩
theorem fF_Tree_Hollow_1 : fpF "FelledByNames$Tree" 11 1 (.int) := ⟨_, _, _, rfl, rfl, rfl, by decide +kernel⟩
set_option maxRecDepth 100000 in
theorem c_Tree_init_5 {b : Nat} {x y : Int32} {l : Launch} {d n : Nat} {h : HP} {Q : QT} (hb : h b = some (.inr (11, [.int 0, .int 0, .int 0, .int 0, .int 0, .int 0, .int 0, .int 0]))) (hQ : Q none n (up h b (.inr (11, [.int x, .int y, .int (nI 0), .int (nI 0), .int (nI 1), .int (nI 0), .int (nI 0), .int (nI 1)])))) : Ct l M_Tree_init (d + 1) 0 0 [.ref b, .int x, .int y] n h Q := by
  refine Ct.of (fun _ => trivial) (by decide) (Nat.le_of_ble_eq_true rfl) ?_
  refine V.aload_n d_Tree_init_0 rfl ?_
  refine V.objInit d_Tree_init_1 ⟨tm 119 (by decide +kernel) rfl, tm 29 (by decide +kernel) rfl, tm 30 (by decide +kernel) rfl⟩ (Nat.le_of_ble_eq_true rfl) ?_
  refine V.aload_n d_Tree_init_4 rfl ?_
  refine V.iconst_ (nI 0) d_Tree_init_5 (by decide +kernel) ?_
  refine V.put d_Tree_init_6 f_Tree_7_Hollow fp_Hollow_2 (fun _ => rfl) (fun _ => rfl) hb (Nat.le_of_ble_eq_true rfl) ?_
  refine V.aload_n d_Tree_init_9 rfl ?_
  refine V.iconst_ (nI 0) d_Tree_init_10 (by decide +kernel) ?_
  refine V.put d_Tree_init_11 f_Tree_13_Hollow fp_Hollow_3 (fun _ => rfl) (fun _ => rfl) up_s (Nat.le_of_ble_eq_true rfl) ?_
  refine V.aload_n d_Tree_init_14 rfl ?_
  refine V.iconst_ (nI 1) d_Tree_init_15 (by decide +kernel) ?_
  refine V.put d_Tree_init_16 f_Tree_16_Hollow fp_Hollow_4 (fun _ => rfl) (fun _ => rfl) up_s (Nat.le_of_ble_eq_true rfl) ?_
  refine V.aload_n d_Tree_init_19 rfl ?_
  refine V.iconst_ (nI 0) d_Tree_init_20 (by decide +kernel) ?_
  refine V.put d_Tree_init_21 f_Tree_19_Hollow fp_Hollow_5 (fun _ => rfl) (fun _ => rfl) up_s (Nat.le_of_ble_eq_true rfl) ?_
  refine V.aload_n d_Tree_init_24 rfl ?_
  refine V.iconst_ (nI 0) d_Tree_init_25 (by decide +kernel) ?_
  refine V.put d_Tree_init_26 f_Tree_22_Hollow fp_Hollow_6 (fun _ => rfl) (fun _ => rfl) up_s (Nat.le_of_ble_eq_true rfl) ?_
  refine V.aload_n d_Tree_init_29 rfl ?_
  refine V.iconst_ (nI 1) d_Tree_init_30 (by decide +kernel) ?_
  refine V.put d_Tree_init_31 f_Tree_25_Hollow fp_Hollow_7 (fun _ => rfl) (fun _ => rfl) up_s (Nat.le_of_ble_eq_true rfl) ?_
  refine V.aload_n d_Tree_init_34 rfl ?_
  refine V.iload_n d_Tree_init_35 rfl ?_
  refine V.putF d_Tree_init_36 f_Tree_29_Hollow fF_Tree_Hollow_0 rfl (fun _ => rfl) (fun _ => rfl) up_s (Nat.le_of_ble_eq_true rfl) ?_
  refine V.aload_n d_Tree_init_39 rfl ?_
  refine V.iload_n d_Tree_init_40 rfl ?_
  refine V.putF d_Tree_init_41 f_Tree_32_Hollow fF_Tree_Hollow_1 rfl (fun _ => rfl) (fun _ => rfl) up_s (Nat.le_of_ble_eq_true rfl) ?_
  refine V.vret d_Tree_init_44 rfl (Nat.le_of_ble_eq_true rfl) (Nat.le_of_ble_eq_true rfl) ?_
  simp only [up_uu]
  exact hQ
theorem fp_Hill_2 : fpk 12 2 (.int) := ⟨_, _, _, rfl, rfl, by decide +kernel⟩
theorem f_Tree_13_Hill : fok "FelledByNames$Tree" 13 12 3 := ⟨R_Hill, F_Hill, 8, "FelledByNames$Tree", rfl, i_Hill, by decide, tm 135 (by decide +kernel) rfl, Or.inl rfl, t_Hill, t_Hill_ok, n_Hill⟩
theorem fp_Hill_3 : fpk 12 3 (.int) := ⟨_, _, _, rfl, rfl, by decide +kernel⟩
theorem f_Tree_16_Hill : fok "FelledByNames$Tree" 16 12 4 := ⟨R_Hill, F_Hill, 8, "FelledByNames$Tree", rfl, i_Hill, by decide, tm 138 (by decide +kernel) rfl, Or.inl rfl, t_Hill, t_Hill_ok, n_Hill⟩
theorem fp_Hill_4 : fpk 12 4 (.int) := ⟨_, _, _, rfl, rfl, by decide +kernel⟩
theorem f_Tree_19_Hill : fok "FelledByNames$Tree" 19 12 5 := ⟨R_Hill, F_Hill, 8, "FelledByNames$Tree", rfl, i_Hill, by decide, tm 141 (by decide +kernel) rfl, Or.inl rfl, t_Hill, t_Hill_ok, n_Hill⟩
theorem fp_Hill_5 : fpk 12 5 (.int) := ⟨_, _, _, rfl, rfl, by decide +kernel⟩
theorem fp_Hill_6 : fpk 12 6 (.int) := ⟨_, _, _, rfl, rfl, by decide +kernel⟩
theorem f_Tree_25_Hill : fok "FelledByNames$Tree" 25 12 7 := ⟨R_Hill, F_Hill, 8, "FelledByNames$Tree", rfl, i_Hill, by decide, tm 149 (by decide +kernel) rfl, Or.inl rfl, t_Hill, t_Hill_ok, n_Hill⟩
theorem fp_Hill_7 : fpk 12 7 (.boolean) := ⟨_, _, _, rfl, rfl, by decide +kernel⟩
theorem f_Tree_29_Hill : fok "FelledByNames$Tree" 29 12 0 := ⟨R_Hill, F_Hill, 8, "FelledByNames$Tree", rfl, i_Hill, by decide, tm 120 (by decide +kernel) rfl, Or.inl rfl, t_Hill, t_Hill_ok, n_Hill⟩
theorem fF_Tree_Hill_0 : fpF "FelledByNames$Tree" 12 0 (.int) := ⟨_, _, _, rfl, rfl, rfl, by decide +kernel⟩
theorem fF_Tree_Hill_1 : fpF "FelledByNames$Tree" 12 1 (.int) := ⟨_, _, _, rfl, rfl, rfl, by decide +kernel⟩
set_option maxRecDepth 100000 in
theorem c_Tree_init_6 {b : Nat} {x y : Int32} {l : Launch} {d n : Nat} {h : HP} {Q : QT} (hb : h b = some (.inr (12, [.int 0, .int 0, .int 0, .int 0, .int 0, .int 0, .int 0, .int 0]))) (hQ : Q none n (up h b (.inr (12, [.int x, .int y, .int (nI 0), .int (nI 0), .int (nI 1), .int (nI 0), .int (nI 0), .int (nI 1)])))) : Ct l M_Tree_init (d + 1) 0 0 [.ref b, .int x, .int y] n h Q := by
  refine Ct.of (fun _ => trivial) (by decide) (Nat.le_of_ble_eq_true rfl) ?_
  refine V.aload_n d_Tree_init_0 rfl ?_
  refine V.objInit d_Tree_init_1 ⟨tm 119 (by decide +kernel) rfl, tm 29 (by decide +kernel) rfl, tm 30 (by decide +kernel) rfl⟩ (Nat.le_of_ble_eq_true rfl) ?_
  refine V.aload_n d_Tree_init_4 rfl ?_
  refine V.iconst_ (nI 0) d_Tree_init_5 (by decide +kernel) ?_
  refine V.put d_Tree_init_6 f_Tree_7_Hill fp_Hill_2 (fun _ => rfl) (fun _ => rfl) hb (Nat.le_of_ble_eq_true rfl) ?_
  refine V.aload_n d_Tree_init_9 rfl ?_
  refine V.iconst_ (nI 0) d_Tree_init_10 (by decide +kernel) ?_
  refine V.put d_Tree_init_11 f_Tree_13_Hill fp_Hill_3 (fun _ => rfl) (fun _ => rfl) up_s (Nat.le_of_ble_eq_true rfl) ?_
  refine V.aload_n d_Tree_init_14 rfl ?_
  refine V.iconst_ (nI 1) d_Tree_init_15 (by decide +kernel) ?_
  refine V.put d_Tree_init_16 f_Tree_16_Hill fp_Hill_4 (fun _ => rfl) (fun _ => rfl) up_s (Nat.le_of_ble_eq_true rfl) ?_
  refine V.aload_n d_Tree_init_19 rfl ?_
  refine V.iconst_ (nI 0) d_Tree_init_20 (by decide +kernel) ?_
  refine V.put d_Tree_init_21 f_Tree_19_Hill fp_Hill_5 (fun _ => rfl) (fun _ => rfl) up_s (Nat.le_of_ble_eq_true rfl) ?_
  refine V.aload_n d_Tree_init_24 rfl ?_
  refine V.iconst_ (nI 0) d_Tree_init_25 (by decide +kernel) ?_
  refine V.put d_Tree_init_26 f_Tree_22_Hill fp_Hill_6 (fun _ => rfl) (fun _ => rfl) up_s (Nat.le_of_ble_eq_true rfl) ?_
  refine V.aload_n d_Tree_init_29 rfl ?_
  refine V.iconst_ (nI 1) d_Tree_init_30 (by decide +kernel) ?_
  refine V.put d_Tree_init_31 f_Tree_25_Hill fp_Hill_7 (fun _ => rfl) (fun _ => rfl) up_s (Nat.le_of_ble_eq_true rfl) ?_
  refine V.aload_n d_Tree_init_34 rfl ?_
  refine V.iload_n d_Tree_init_35 rfl ?_
  refine V.putF d_Tree_init_36 f_Tree_29_Hill fF_Tree_Hill_0 rfl (fun _ => rfl) (fun _ => rfl) up_s (Nat.le_of_ble_eq_true rfl) ?_
  refine V.aload_n d_Tree_init_39 rfl ?_
  refine V.iload_n d_Tree_init_40 rfl ?_
  refine V.putF d_Tree_init_41 f_Tree_32_Hill fF_Tree_Hill_1 rfl (fun _ => rfl) (fun _ => rfl) up_s (Nat.le_of_ble_eq_true rfl) ?_
  refine V.vret d_Tree_init_44 rfl (Nat.le_of_ble_eq_true rfl) (Nat.le_of_ble_eq_true rfl) ?_
  simp only [up_uu]
  exact hQ
abbrev M_Beech_init : MD := (⟨"FelledByNames$Beech", "<init>", "(II)V"⟩, prog_2_method_1_code, 3, none, fun _ => True)
theorem d_Beech_init_0 : decode prog_2_method_1_code 0 = .ok (.aload_n 0, 1) := by decide +kernel
theorem d_Beech_init_1 : decode prog_2_method_1_code 1 = .ok (.iload_n 1, 1) := by decide +kernel
theorem d_Beech_init_2 : decode prog_2_method_1_code 2 = .ok (.iload_n 2, 1) := by decide +kernel
theorem d_Beech_init_3 : decode prog_2_method_1_code 3 = .ok (.invokespecial 1, 3) := by decide +kernel
theorem kB_Tree_init : kB M_Tree_init 2 := ⟨tm 6 (by decide +kernel) rfl, tm 118 (by decide +kernel) rfl, ⟨by decide, by decide, by decide +kernel⟩, by decide⟩
theorem k_Beech_1_Tree_initI : kI "FelledByNames$Beech" 1 M_Tree_init 2 := ⟨kB_Tree_init, tm 517 (by decide +kernel) rfl, tm 117 (by decide +kernel) rfl, rfl, rfl⟩
theorem d_Beech_init_6 : decode prog_2_method_1_code 6 = .ok (.return_, 1) := by decide +kernel
set_option maxRecDepth 100000 in
theorem c_Beech_init_1 {b : Nat} {x y : Int32} {l : Launch} {d n : Nat} {h : HP} {Q : QT} (hb : h b = some (.inr (7, [.int 0, .int 0, .int 0, .int 0, .int 0, .int 0, .int 0, .int 0]))) (hQ : Q none n (up h b (.inr (7, [.int x, .int y, .int (nI 0), .int (nI 0), .int (nI 1), .int (nI 0), .int (nI 0), .int (nI 1)])))) : Ct l M_Beech_init (d + 2) 0 0 [.ref b, .int x, .int y] n h Q := by
  refine Ct.of (fun _ => trivial) (by decide) (Nat.le_of_ble_eq_true rfl) ?_
  refine V.aload_n d_Beech_init_0 rfl ?_
  refine V.iload_n d_Beech_init_1 rfl ?_
  refine V.iload_n d_Beech_init_2 rfl ?_
  refine V.callI2 d_Beech_init_3 k_Beech_1_Tree_initI (Nat.le_of_ble_eq_true rfl) (by omega) (by omega) (c_Tree_init_1 hb ?_)
  refine V.vret d_Beech_init_6 rfl (Nat.le_of_ble_eq_true rfl) (Nat.le_of_ble_eq_true rfl) ?_
  exact hQ
set_option maxRecDepth 100000 in
theorem c_Beech_init_4 {b : Nat} {x y : Int32} {l : Launch} {d n : Nat} {h : HP} {Q : QT} (hb : h b = some (.inr (10, [.int 0, .int 0, .int 0, .int 0, .int 0, .int 0, .int 0, .int 0]))) (hQ : Q none n (up h b (.inr (10, [.int x, .int y, .int (nI 0), .int (nI 0), .int (nI 1), .int (nI 0), .int (nI 0), .int (nI 1)])))) : Ct l M_Beech_init (d + 2) 0 0 [.ref b, .int x, .int y] n h Q := by
  refine Ct.of (fun _ => trivial) (by decide) (Nat.le_of_ble_eq_true rfl) ?_
  refine V.aload_n d_Beech_init_0 rfl ?_
  refine V.iload_n d_Beech_init_1 rfl ?_
  refine V.iload_n d_Beech_init_2 rfl ?_
  refine V.callI2 d_Beech_init_3 k_Beech_1_Tree_initI (Nat.le_of_ble_eq_true rfl) (by omega) (by omega) (c_Tree_init_4 hb ?_)
  refine V.vret d_Beech_init_6 rfl (Nat.le_of_ble_eq_true rfl) (Nat.le_of_ble_eq_true rfl) ?_
  exact hQ
abbrev M_Oak_init : MD := (⟨"FelledByNames$Oak", "<init>", "(II)V"⟩, prog_5_method_1_code, 3, none, fun _ => True)
theorem d_Oak_init_0 : decode prog_5_method_1_code 0 = .ok (.aload_n 0, 1) := by decide +kernel
theorem d_Oak_init_1 : decode prog_5_method_1_code 1 = .ok (.iload_n 1, 1) := by decide +kernel
theorem d_Oak_init_2 : decode prog_5_method_1_code 2 = .ok (.iload_n 2, 1) := by decide +kernel
theorem d_Oak_init_3 : decode prog_5_method_1_code 3 = .ok (.invokespecial 1, 3) := by decide +kernel
theorem k_Oak_1_Tree_initI : kI "FelledByNames$Oak" 1 M_Tree_init 2 := ⟨kB_Tree_init, tm 532 (by decide +kernel) rfl, tm 117 (by decide +kernel) rfl, rfl, rfl⟩
theorem d_Oak_init_6 : decode prog_5_method_1_code 6 = .ok (.return_, 1) := by decide +kernel
set_option maxRecDepth 100000 in
theorem c_Oak_init_2 {b : Nat} {x y : Int32} {l : Launch} {d n : Nat} {h : HP} {Q : QT} (hb : h b = some (.inr (8, [.int 0, .int 0, .int 0, .int 0, .int 0, .int 0, .int 0, .int 0]))) (hQ : Q none n (up h b (.inr (8, [.int x, .int y, .int (nI 0), .int (nI 0), .int (nI 1), .int (nI 0), .int (nI 0), .int (nI 1)])))) : Ct l M_Oak_init (d + 2) 0 0 [.ref b, .int x, .int y] n h Q := by
  refine Ct.of (fun _ => trivial) (by decide) (Nat.le_of_ble_eq_true rfl) ?_
  refine V.aload_n d_Oak_init_0 rfl ?_
  refine V.iload_n d_Oak_init_1 rfl ?_
  refine V.iload_n d_Oak_init_2 rfl ?_
  refine V.callI2 d_Oak_init_3 k_Oak_1_Tree_initI (Nat.le_of_ble_eq_true rfl) (by omega) (by omega) (c_Tree_init_2 hb ?_)
  refine V.vret d_Oak_init_6 rfl (Nat.le_of_ble_eq_true rfl) (Nat.le_of_ble_eq_true rfl) ?_
  exact hQ
set_option maxRecDepth 100000 in
theorem c_Oak_init_5 {b : Nat} {x y : Int32} {l : Launch} {d n : Nat} {h : HP} {Q : QT} (hb : h b = some (.inr (11, [.int 0, .int 0, .int 0, .int 0, .int 0, .int 0, .int 0, .int 0]))) (hQ : Q none n (up h b (.inr (11, [.int x, .int y, .int (nI 0), .int (nI 0), .int (nI 1), .int (nI 0), .int (nI 0), .int (nI 1)])))) : Ct l M_Oak_init (d + 2) 0 0 [.ref b, .int x, .int y] n h Q := by
  refine Ct.of (fun _ => trivial) (by decide) (Nat.le_of_ble_eq_true rfl) ?_
  refine V.aload_n d_Oak_init_0 rfl ?_
  refine V.iload_n d_Oak_init_1 rfl ?_
  refine V.iload_n d_Oak_init_2 rfl ?_
  refine V.callI2 d_Oak_init_3 k_Oak_1_Tree_initI (Nat.le_of_ble_eq_true rfl) (by omega) (by omega) (c_Tree_init_5 hb ?_)
  refine V.vret d_Oak_init_6 rfl (Nat.le_of_ble_eq_true rfl) (Nat.le_of_ble_eq_true rfl) ?_
  exact hQ
abbrev M_Sapling_init : MD := (⟨"FelledByNames$Sapling", "<init>", "(II)V"⟩, prog_7_method_1_code, 3, none, fun _ => True)
theorem d_Sapling_init_0 : decode prog_7_method_1_code 0 = .ok (.aload_n 0, 1) := by decide +kernel
theorem d_Sapling_init_1 : decode prog_7_method_1_code 1 = .ok (.iload_n 1, 1) := by decide +kernel
theorem d_Sapling_init_2 : decode prog_7_method_1_code 2 = .ok (.iload_n 2, 1) := by decide +kernel
theorem d_Sapling_init_3 : decode prog_7_method_1_code 3 = .ok (.invokespecial 1, 3) := by decide +kernel
theorem k_Sapling_1_Tree_initI : kI "FelledByNames$Sapling" 1 M_Tree_init 2 := ⟨kB_Tree_init, tm 547 (by decide +kernel) rfl, tm 117 (by decide +kernel) rfl, rfl, rfl⟩
theorem d_Sapling_init_6 : decode prog_7_method_1_code 6 = .ok (.return_, 1) := by decide +kernel
set_option maxRecDepth 100000 in
theorem c_Sapling_init_3 {b : Nat} {x y : Int32} {l : Launch} {d n : Nat} {h : HP} {Q : QT} (hb : h b = some (.inr (9, [.int 0, .int 0, .int 0, .int 0, .int 0, .int 0, .int 0, .int 0]))) (hQ : Q none n (up h b (.inr (9, [.int x, .int y, .int (nI 0), .int (nI 0), .int (nI 1), .int (nI 0), .int (nI 0), .int (nI 1)])))) : Ct l M_Sapling_init (d + 2) 0 0 [.ref b, .int x, .int y] n h Q := by
  refine Ct.of (fun _ => trivial) (by decide) (Nat.le_of_ble_eq_true rfl) ?_
  refine V.aload_n d_Sapling_init_0 rfl ?_
  refine V.iload_n d_Sapling_init_1 rfl ?_
  refine V.iload_n d_Sapling_init_2 rfl ?_
  refine V.callI2 d_Sapling_init_3 k_Sapling_1_Tree_initI (Nat.le_of_ble_eq_true rfl) (by omega) (by omega) (c_Tree_init_3 hb ?_)
  refine V.vret d_Sapling_init_6 rfl (Nat.le_of_ble_eq_true rfl) (Nat.le_of_ble_eq_true rfl) ?_
  exact hQ
set_option maxRecDepth 100000 in
theorem c_Sapling_init_6 {b : Nat} {x y : Int32} {l : Launch} {d n : Nat} {h : HP} {Q : QT} (hb : h b = some (.inr (12, [.int 0, .int 0, .int 0, .int 0, .int 0, .int 0, .int 0, .int 0]))) (hQ : Q none n (up h b (.inr (12, [.int x, .int y, .int (nI 0), .int (nI 0), .int (nI 1), .int (nI 0), .int (nI 0), .int (nI 1)])))) : Ct l M_Sapling_init (d + 2) 0 0 [.ref b, .int x, .int y] n h Q := by
  refine Ct.of (fun _ => trivial) (by decide) (Nat.le_of_ble_eq_true rfl) ?_
  refine V.aload_n d_Sapling_init_0 rfl ?_
  refine V.iload_n d_Sapling_init_1 rfl ?_
  refine V.iload_n d_Sapling_init_2 rfl ?_
  refine V.callI2 d_Sapling_init_3 k_Sapling_1_Tree_initI (Nat.le_of_ble_eq_true rfl) (by omega) (by omega) (c_Tree_init_6 hb ?_)
  refine V.vret d_Sapling_init_6 rfl (Nat.le_of_ble_eq_true rfl) (Nat.le_of_ble_eq_true rfl) ?_
  exact hQ
abbrev M_Wedged_init : MD := (⟨"FelledByNames$Wedged", "<init>", "(II)V"⟩, prog_11_method_1_code, 3, none, fun _ => True)
theorem d_Wedged_init_0 : decode prog_11_method_1_code 0 = .ok (.aload_n 0, 1) := by decide +kernel
theorem d_Wedged_init_1 : decode prog_11_method_1_code 1 = .ok (.iload_n 1, 1) := by decide +kernel
theorem d_Wedged_init_2 : decode prog_11_method_1_code 2 = .ok (.iload_n 2, 1) := by decide +kernel
theorem d_Wedged_init_3 : decode prog_11_method_1_code 3 = .ok (.invokespecial 1, 3) := by decide +kernel
theorem kB_Beech_init : kB M_Beech_init 2 := ⟨tm 16 (by decide +kernel) rfl, tm 516 (by decide +kernel) rfl, ⟨by decide, by decide, by decide +kernel⟩, by decide⟩
theorem k_Wedged_1_Beech_initI : kI "FelledByNames$Wedged" 1 M_Beech_init 2 := ⟨kB_Beech_init, tm 562 (by decide +kernel) rfl, tm 515 (by decide +kernel) rfl, rfl, rfl⟩
theorem d_Wedged_init_6 : decode prog_11_method_1_code 6 = .ok (.return_, 1) := by decide +kernel
set_option maxRecDepth 100000 in
theorem c_Wedged_init_4 {b : Nat} {x y : Int32} {l : Launch} {d n : Nat} {h : HP} {Q : QT} (hb : h b = some (.inr (10, [.int 0, .int 0, .int 0, .int 0, .int 0, .int 0, .int 0, .int 0]))) (hQ : Q none n (up h b (.inr (10, [.int x, .int y, .int (nI 0), .int (nI 0), .int (nI 1), .int (nI 0), .int (nI 0), .int (nI 1)])))) : Ct l M_Wedged_init (d + 3) 0 0 [.ref b, .int x, .int y] n h Q := by
  refine Ct.of (fun _ => trivial) (by decide) (Nat.le_of_ble_eq_true rfl) ?_
  refine V.aload_n d_Wedged_init_0 rfl ?_
  refine V.iload_n d_Wedged_init_1 rfl ?_
  refine V.iload_n d_Wedged_init_2 rfl ?_
  refine V.callI2 d_Wedged_init_3 k_Wedged_1_Beech_initI (Nat.le_of_ble_eq_true rfl) (by omega) (by omega) (c_Beech_init_4 hb ?_)
  refine V.vret d_Wedged_init_6 rfl (Nat.le_of_ble_eq_true rfl) (Nat.le_of_ble_eq_true rfl) ?_
  exact hQ
abbrev M_Hollow_init : MD := (⟨"FelledByNames$Hollow", "<init>", "(II)V"⟩, prog_4_method_1_code, 3, none, fun _ => True)
theorem d_Hollow_init_0 : decode prog_4_method_1_code 0 = .ok (.aload_n 0, 1) := by decide +kernel
theorem d_Hollow_init_1 : decode prog_4_method_1_code 1 = .ok (.iload_n 1, 1) := by decide +kernel
theorem d_Hollow_init_2 : decode prog_4_method_1_code 2 = .ok (.iload_n 2, 1) := by decide +kernel
theorem d_Hollow_init_3 : decode prog_4_method_1_code 3 = .ok (.invokespecial 1, 3) := by decide +kernel
theorem kB_Oak_init : kB M_Oak_init 2 := ⟨tm 17 (by decide +kernel) rfl, tm 531 (by decide +kernel) rfl, ⟨by decide, by decide, by decide +kernel⟩, by decide⟩
theorem k_Hollow_1_Oak_initI : kI "FelledByNames$Hollow" 1 M_Oak_init 2 := ⟨kB_Oak_init, tm 577 (by decide +kernel) rfl, tm 530 (by decide +kernel) rfl, rfl, rfl⟩
theorem d_Hollow_init_6 : decode prog_4_method_1_code 6 = .ok (.return_, 1) := by decide +kernel
set_option maxRecDepth 100000 in
theorem c_Hollow_init_5 {b : Nat} {x y : Int32} {l : Launch} {d n : Nat} {h : HP} {Q : QT} (hb : h b = some (.inr (11, [.int 0, .int 0, .int 0, .int 0, .int 0, .int 0, .int 0, .int 0]))) (hQ : Q none n (up h b (.inr (11, [.int x, .int y, .int (nI 0), .int (nI 0), .int (nI 1), .int (nI 0), .int (nI 0), .int (nI 1)])))) : Ct l M_Hollow_init (d + 3) 0 0 [.ref b, .int x, .int y] n h Q := by
  refine Ct.of (fun _ => trivial) (by decide) (Nat.le_of_ble_eq_true rfl) ?_
  refine V.aload_n d_Hollow_init_0 rfl ?_
  refine V.iload_n d_Hollow_init_1 rfl ?_
  refine V.iload_n d_Hollow_init_2 rfl ?_
  refine V.callI2 d_Hollow_init_3 k_Hollow_1_Oak_initI (Nat.le_of_ble_eq_true rfl) (by omega) (by omega) (c_Oak_init_5 hb ?_)
  refine V.vret d_Hollow_init_6 rfl (Nat.le_of_ble_eq_true rfl) (Nat.le_of_ble_eq_true rfl) ?_
  exact hQ
abbrev M_Hill_init : MD := (⟨"FelledByNames$Hill", "<init>", "(II)V"⟩, prog_3_method_1_code, 3, none, fun _ => True)
theorem d_Hill_init_0 : decode prog_3_method_1_code 0 = .ok (.aload_n 0, 1) := by decide +kernel
theorem d_Hill_init_1 : decode prog_3_method_1_code 1 = .ok (.iload_n 1, 1) := by decide +kernel
theorem d_Hill_init_2 : decode prog_3_method_1_code 2 = .ok (.iload_n 2, 1) := by decide +kernel
theorem d_Hill_init_3 : decode prog_3_method_1_code 3 = .ok (.invokespecial 1, 3) := by decide +kernel
theorem kB_Sapling_init : kB M_Sapling_init 2 := ⟨tm 18 (by decide +kernel) rfl, tm 546 (by decide +kernel) rfl, ⟨by decide, by decide, by decide +kernel⟩, by decide⟩
theorem k_Hill_1_Sapling_initI : kI "FelledByNames$Hill" 1 M_Sapling_init 2 := ⟨kB_Sapling_init, tm 592 (by decide +kernel) rfl, tm 545 (by decide +kernel) rfl, rfl, rfl⟩
theorem d_Hill_init_6 : decode prog_3_method_1_code 6 = .ok (.return_, 1) := by decide +kernel
set_option maxRecDepth 100000 in
theorem c_Hill_init_6 {b : Nat} {x y : Int32} {l : Launch} {d n : Nat} {h : HP} {Q : QT} (hb : h b = some (.inr (12, [.int 0, .int 0, .int 0, .int 0, .int 0, .int 0, .int 0, .int 0]))) (hQ : Q none n (up h b (.inr (12, [.int x, .int y, .int (nI 0), .int (nI 0), .int (nI 1), .int (nI 0), .int (nI 0), .int (nI 1)])))) : Ct l M_Hill_init (d + 3) 0 0 [.ref b, .int x, .int y] n h Q := by
  refine Ct.of (fun _ => trivial) (by decide) (Nat.le_of_ble_eq_true rfl) ?_
  refine V.aload_n d_Hill_init_0 rfl ?_
  refine V.iload_n d_Hill_init_1 rfl ?_
  refine V.iload_n d_Hill_init_2 rfl ?_
  refine V.callI2 d_Hill_init_3 k_Hill_1_Sapling_initI (Nat.le_of_ble_eq_true rfl) (by omega) (by omega) (c_Sapling_init_6 hb ?_)
  refine V.vret d_Hill_init_6 rfl (Nat.le_of_ble_eq_true rfl) (Nat.le_of_ble_eq_true rfl) ?_
  exact hQ
def ntc (k i : Nat) : AE := .inr (6 + k, [.int (nI k), .int (nI i), .int (nI 0), .int (nI 0), .int (nI 1), .int (nI 0), .int (nI 0), .int (nI 1)])
abbrev M_F_newTree : MD := (⟨"FelledByNames", "newTree", "(II)LFelledByNames$Tree;"⟩, prog_1_method_53_code, 2, (Option.some (.object "FelledByNames$Tree")), fun _ => True)
theorem d_F_newTree_0 : decode prog_1_method_53_code 0 = .ok (.iload_n 0, 1) := by decide +kernel
theorem d_F_newTree_1 : decode prog_1_method_53_code 1 = .ok (.tableswitch 99 1 6 #[39, 49, 59, 69, 79, 89], 39) := by decide +kernel
theorem nk_F_129 : nok "FelledByNames" 129 6 8 [.int 0, .int 0, .int 0, .int 0, .int 0, .int 0, .int 0, .int 0] := ⟨_, _, t_Tree, rfl, i_Tree, t_Tree_ok, tm 602 (by decide +kernel) rfl, tm 115 (by decide +kernel) rfl, tm 6 (by decide +kernel) rfl, fun _ j hj => by rcases (show j = 0 ∨ j = 1 ∨ j = 2 ∨ j = 3 ∨ j = 4 ∨ j = 5 ∨ j = 6 ∨ j = 7 by omega) with rfl | rfl | rfl | rfl | rfl | rfl | rfl | rfl <;> rfl⟩
theorem d_F_newTree_100 : decode prog_1_method_53_code 100 = .ok (.new 129, 3) := by decide +kernel
theorem d_F_newTree_103 : decode prog_1_method_53_code 103 = .ok (.dup, 1) := by decide +kernel
theorem d_F_newTree_104 : decode prog_1_method_53_code 104 = .ok (.iconst 0, 1) := by decide +kernel
theorem d_F_newTree_105 : decode prog_1_method_53_code 105 = .ok (.iload_n 1, 1) := by decide +kernel
theorem d_F_newTree_106 : decode prog_1_method_53_code 106 = .ok (.invokespecial 348, 3) := by decide +kernel
theorem k_F_348_Tree_initI : kI "FelledByNames" 348 M_Tree_init 2 := ⟨kB_Tree_init, tm 603 (by decide +kernel) rfl, tm 117 (by decide +kernel) rfl, rfl, rfl⟩
theorem d_F_newTree_109 : decode prog_1_method_53_code 109 = .ok (.areturn, 1) := by decide +kernel
theorem nk_F_329 : nok "FelledByNames" 329 7 8 [.int 0, .int 0, .int 0, .int 0, .int 0, .int 0, .int 0, .int 0] := ⟨_, _, t_Beech, rfl, i_Beech, t_Beech_ok, tm 512 (by decide +kernel) rfl, tm 513 (by decide +kernel) rfl, tm 16 (by decide +kernel) rfl, fun _ j hj => by rcases (show j = 0 ∨ j = 1 ∨ j = 2 ∨ j = 3 ∨ j = 4 ∨ j = 5 ∨ j = 6 ∨ j = 7 by omega) with rfl | rfl | rfl | rfl | rfl | rfl | rfl | rfl <;> rfl⟩
theorem d_F_newTree_40 : decode prog_1_method_53_code 40 = .ok (.new 329, 3) := by decide +kernel
theorem d_F_newTree_43 : decode prog_1_method_53_code 43 = .ok (.dup, 1) := by decide +kernel
theorem d_F_newTree_44 : decode prog_1_method_53_code 44 = .ok (.iload_n 0, 1) := by decide +kernel
theorem d_F_newTree_45 : decode prog_1_method_53_code 45 = .ok (.iload_n 1, 1) := by decide +kernel
theorem d_F_newTree_46 : decode prog_1_method_53_code 46 = .ok (.invokespecial 331, 3) := by decide +kernel
theorem k_F_331_Beech_initI : kI "FelledByNames" 331 M_Beech_init 2 := ⟨kB_Beech_init, tm 514 (by decide +kernel) rfl, tm 515 (by decide +kernel) rfl, rfl, rfl⟩
theorem d_F_newTree_49 : decode prog_1_method_53_code 49 = .ok (.areturn, 1) := by decide +kernel
theorem nk_F_333 : nok "FelledByNames" 333 8 8 [.int 0, .int 0, .int 0, .int 0, .int 0, .int 0, .int 0, .int 0] := ⟨_, _, t_Oak, rfl, i_Oak, t_Oak_ok, tm 527 (by decide +kernel) rfl, tm 528 (by decide +kernel) rfl, tm 17 (by decide +kernel) rfl, fun _ j hj => by rcases (show j = 0 ∨ j = 1 ∨ j = 2 ∨ j = 3 ∨ j = 4 ∨ j = 5 ∨ j = 6 ∨ j = 7 by omega) with rfl | rfl | rfl | rfl | rfl | rfl | rfl | rfl <;> rfl⟩
theorem d_F_newTree_50 : decode prog_1_method_53_code 50 = .ok (.new 333, 3) := by decide +kernel
theorem d_F_newTree_53 : decode prog_1_method_53_code 53 = .ok (.dup, 1) := by decide +kernel
theorem d_F_newTree_54 : decode prog_1_method_53_code 54 = .ok (.iload_n 0, 1) := by decide +kernel
theorem d_F_newTree_55 : decode prog_1_method_53_code 55 = .ok (.iload_n 1, 1) := by decide +kernel
theorem d_F_newTree_56 : decode prog_1_method_53_code 56 = .ok (.invokespecial 335, 3) := by decide +kernel
theorem k_F_335_Oak_initI : kI "FelledByNames" 335 M_Oak_init 2 := ⟨kB_Oak_init, tm 529 (by decide +kernel) rfl, tm 530 (by decide +kernel) rfl, rfl, rfl⟩
theorem d_F_newTree_59 : decode prog_1_method_53_code 59 = .ok (.areturn, 1) := by decide +kernel
theorem nk_F_336 : nok "FelledByNames" 336 9 8 [.int 0, .int 0, .int 0, .int 0, .int 0, .int 0, .int 0, .int 0] := ⟨_, _, t_Sapling, rfl, i_Sapling, t_Sapling_ok, tm 542 (by decide +kernel) rfl, tm 543 (by decide +kernel) rfl, tm 18 (by decide +kernel) rfl, fun _ j hj => by rcases (show j = 0 ∨ j = 1 ∨ j = 2 ∨ j = 3 ∨ j = 4 ∨ j = 5 ∨ j = 6 ∨ j = 7 by omega) with rfl | rfl | rfl | rfl | rfl | rfl | rfl | rfl <;> rfl⟩
theorem d_F_newTree_60 : decode prog_1_method_53_code 60 = .ok (.new 336, 3) := by decide +kernel
theorem d_F_newTree_63 : decode prog_1_method_53_code 63 = .ok (.dup, 1) := by decide +kernel
theorem d_F_newTree_64 : decode prog_1_method_53_code 64 = .ok (.iload_n 0, 1) := by decide +kernel
theorem d_F_newTree_65 : decode prog_1_method_53_code 65 = .ok (.iload_n 1, 1) := by decide +kernel
theorem d_F_newTree_66 : decode prog_1_method_53_code 66 = .ok (.invokespecial 338, 3) := by decide +kernel
theorem k_F_338_Sapling_initI : kI "FelledByNames" 338 M_Sapling_init 2 := ⟨kB_Sapling_init, tm 544 (by decide +kernel) rfl, tm 545 (by decide +kernel) rfl, rfl, rfl⟩
theorem d_F_newTree_69 : decode prog_1_method_53_code 69 = .ok (.areturn, 1) := by decide +kernel
theorem nk_F_339 : nok "FelledByNames" 339 10 8 [.int 0, .int 0, .int 0, .int 0, .int 0, .int 0, .int 0, .int 0] := ⟨_, _, t_Wedged, rfl, i_Wedged, t_Wedged_ok, tm 557 (by decide +kernel) rfl, tm 558 (by decide +kernel) rfl, tm 19 (by decide +kernel) rfl, fun _ j hj => by rcases (show j = 0 ∨ j = 1 ∨ j = 2 ∨ j = 3 ∨ j = 4 ∨ j = 5 ∨ j = 6 ∨ j = 7 by omega) with rfl | rfl | rfl | rfl | rfl | rfl | rfl | rfl <;> rfl⟩
theorem d_F_newTree_70 : decode prog_1_method_53_code 70 = .ok (.new 339, 3) := by decide +kernel
theorem d_F_newTree_73 : decode prog_1_method_53_code 73 = .ok (.dup, 1) := by decide +kernel
theorem d_F_newTree_74 : decode prog_1_method_53_code 74 = .ok (.iload_n 0, 1) := by decide +kernel
theorem d_F_newTree_75 : decode prog_1_method_53_code 75 = .ok (.iload_n 1, 1) := by decide +kernel
theorem d_F_newTree_76 : decode prog_1_method_53_code 76 = .ok (.invokespecial 341, 3) := by decide +kernel
theorem kB_Wedged_init : kB M_Wedged_init 2 := ⟨tm 19 (by decide +kernel) rfl, tm 561 (by decide +kernel) rfl, ⟨by decide, by decide, by decide +kernel⟩, by decide⟩
theorem k_F_341_Wedged_initI : kI "FelledByNames" 341 M_Wedged_init 2 := ⟨kB_Wedged_init, tm 559 (by decide +kernel) rfl, tm 560 (by decide +kernel) rfl, rfl, rfl⟩
theorem d_F_newTree_79 : decode prog_1_method_53_code 79 = .ok (.areturn, 1) := by decide +kernel
theorem nk_F_342 : nok "FelledByNames" 342 11 8 [.int 0, .int 0, .int 0, .int 0, .int 0, .int 0, .int 0, .int 0] := ⟨_, _, t_Hollow, rfl, i_Hollow, t_Hollow_ok, tm 572 (by decide +kernel) rfl, tm 573 (by decide +kernel) rfl, tm 20 (by decide +kernel) rfl, fun _ j hj => by rcases (show j = 0 ∨ j = 1 ∨ j = 2 ∨ j = 3 ∨ j = 4 ∨ j = 5 ∨ j = 6 ∨ j = 7 by omega) with rfl | rfl | rfl | rfl | rfl | rfl | rfl | rfl <;> rfl⟩
theorem d_F_newTree_80 : decode prog_1_method_53_code 80 = .ok (.new 342, 3) := by decide +kernel
theorem d_F_newTree_83 : decode prog_1_method_53_code 83 = .ok (.dup, 1) := by decide +kernel
theorem d_F_newTree_84 : decode prog_1_method_53_code 84 = .ok (.iload_n 0, 1) := by decide +kernel
theorem d_F_newTree_85 : decode prog_1_method_53_code 85 = .ok (.iload_n 1, 1) := by decide +kernel
theorem d_F_newTree_86 : decode prog_1_method_53_code 86 = .ok (.invokespecial 344, 3) := by decide +kernel
theorem kB_Hollow_init : kB M_Hollow_init 2 := ⟨tm 20 (by decide +kernel) rfl, tm 576 (by decide +kernel) rfl, ⟨by decide, by decide, by decide +kernel⟩, by decide⟩
theorem k_F_344_Hollow_initI : kI "FelledByNames" 344 M_Hollow_init 2 := ⟨kB_Hollow_init, tm 574 (by decide +kernel) rfl, tm 575 (by decide +kernel) rfl, rfl, rfl⟩
theorem d_F_newTree_89 : decode prog_1_method_53_code 89 = .ok (.areturn, 1) := by decide +kernel
theorem nk_F_345 : nok "FelledByNames" 345 12 8 [.int 0, .int 0, .int 0, .int 0, .int 0, .int 0, .int 0, .int 0] := ⟨_, _, t_Hill, rfl, i_Hill, t_Hill_ok, tm 587 (by decide +kernel) rfl, tm 588 (by decide +kernel) rfl, tm 21 (by decide +kernel) rfl, fun _ j hj => by rcases (show j = 0 ∨ j = 1 ∨ j = 2 ∨ j = 3 ∨ j = 4 ∨ j = 5 ∨ j = 6 ∨ j = 7 by omega) with rfl | rfl | rfl | rfl | rfl | rfl | rfl | rfl <;> rfl⟩
theorem d_F_newTree_90 : decode prog_1_method_53_code 90 = .ok (.new 345, 3) := by decide +kernel
theorem d_F_newTree_93 : decode prog_1_method_53_code 93 = .ok (.dup, 1) := by decide +kernel
theorem d_F_newTree_94 : decode prog_1_method_53_code 94 = .ok (.iload_n 0, 1) := by decide +kernel
theorem d_F_newTree_95 : decode prog_1_method_53_code 95 = .ok (.iload_n 1, 1) := by decide +kernel
theorem d_F_newTree_96 : decode prog_1_method_53_code 96 = .ok (.invokespecial 347, 3) := by decide +kernel
theorem kB_Hill_init : kB M_Hill_init 2 := ⟨tm 21 (by decide +kernel) rfl, tm 591 (by decide +kernel) rfl, ⟨by decide, by decide, by decide +kernel⟩, by decide⟩
theorem k_F_347_Hill_initI : kI "FelledByNames" 347 M_Hill_init 2 := ⟨kB_Hill_init, tm 589 (by decide +kernel) rfl, tm 590 (by decide +kernel) rfl, rfl, rfl⟩
theorem d_F_newTree_99 : decode prog_1_method_53_code 99 = .ok (.areturn, 1) := by decide +kernel
set_option maxRecDepth 100000 in
theorem c_F_newTree {k i : Nat} {l : Launch} {d n : Nat} {h : HP} {Q : QT} (hk : k ≤ 6) (hQ : Q (some (.ref n)) (n + 1) (up h n (ntc k i))) : Ct l M_F_newTree (d + 4) 1 8 [.int (nI k), .int (nI i)] n h Q := by
  refine Ct.of (fun _ => trivial) (by decide) (Nat.le_of_ble_eq_true rfl) ?_
  refine V.iload_n d_F_newTree_0 rfl ?_
  rcases (show k = 0 ∨ k = 1 ∨ k = 2 ∨ k = 3 ∨ k = 4 ∨ k = 5 ∨ k = 6 by omega) with rfl | rfl | rfl | rfl | rfl | rfl | rfl
  · skip
    refine V.tabOut (tgt := 100) d_F_newTree_1 (by decide +kernel) (by decide) ?_
    refine V.new d_F_newTree_100 nk_F_129 (by omega) (by omega) ?_
    refine V.dup rfl d_F_newTree_103 ?_
    refine V.iconst_ (nI 0) d_F_newTree_104 (by decide +kernel) ?_
    refine V.iload_n d_F_newTree_105 rfl ?_
    refine V.callI2 d_F_newTree_106 k_F_348_Tree_initI (Nat.le_of_ble_eq_true rfl) (by omega) (by omega) (c_Tree_init_0 up_s ?_)
    rw [up_uu]
    refine V.aret d_F_newTree_109 rfl (Or.inl ⟨_, rfl⟩) (Or.inr (Or.inl ⟨_, rfl⟩)) (Nat.le_of_ble_eq_true rfl) (Nat.le_of_ble_eq_true rfl) ?_
    exact hQ
  · skip
    refine V.tabIn (tgt := 40) (off := 39) d_F_newTree_1 (by decide +kernel) (by decide +kernel) (by decide +kernel) (by decide) ?_
    refine V.new d_F_newTree_40 nk_F_329 (by omega) (by omega) ?_
    refine V.dup rfl d_F_newTree_43 ?_
    refine V.iload_n d_F_newTree_44 rfl ?_
    refine V.iload_n d_F_newTree_45 rfl ?_
    refine V.callI2 d_F_newTree_46 k_F_331_Beech_initI (Nat.le_of_ble_eq_true rfl) (by omega) (by omega) (c_Beech_init_1 up_s ?_)
    rw [up_uu]
    refine V.aret d_F_newTree_49 rfl (Or.inl ⟨_, rfl⟩) (Or.inr (Or.inl ⟨_, rfl⟩)) (Nat.le_of_ble_eq_true rfl) (Nat.le_of_ble_eq_true rfl) ?_
    exact hQ
  · skip
    refine V.tabIn (tgt := 50) (off := 49) d_F_newTree_1 (by decide +kernel) (by decide +kernel) (by decide +kernel) (by decide) ?_
    refine V.new d_F_newTree_50 nk_F_333 (by omega) (by omega) ?_
    refine V.dup rfl d_F_newTree_53 ?_
    refine V.iload_n d_F_newTree_54 rfl ?_
    refine V.iload_n d_F_newTree_55 rfl ?_
    refine V.callI2 d_F_newTree_56 k_F_335_Oak_initI (Nat.le_of_ble_eq_true rfl) (by omega) (by omega) (c_Oak_init_2 up_s ?_)
    rw [up_uu]
    refine V.aret d_F_newTree_59 rfl (Or.inl ⟨_, rfl⟩) (Or.inr (Or.inl ⟨_, rfl⟩)) (Nat.le_of_ble_eq_true rfl) (Nat.le_of_ble_eq_true rfl) ?_
    exact hQ
  · skip
    refine V.tabIn (tgt := 60) (off := 59) d_F_newTree_1 (by decide +kernel) (by decide +kernel) (by decide +kernel) (by decide) ?_
    refine V.new d_F_newTree_60 nk_F_336 (by omega) (by omega) ?_
    refine V.dup rfl d_F_newTree_63 ?_
    refine V.iload_n d_F_newTree_64 rfl ?_
    refine V.iload_n d_F_newTree_65 rfl ?_
    refine V.callI2 d_F_newTree_66 k_F_338_Sapling_initI (Nat.le_of_ble_eq_true rfl) (by omega) (by omega) (c_Sapling_init_3 up_s ?_)
    rw [up_uu]
    refine V.aret d_F_newTree_69 rfl (Or.inl ⟨_, rfl⟩) (Or.inr (Or.inl ⟨_, rfl⟩)) (Nat.le_of_ble_eq_true rfl) (Nat.le_of_ble_eq_true rfl) ?_
    exact hQ
  · skip
    refine V.tabIn (tgt := 70) (off := 69) d_F_newTree_1 (by decide +kernel) (by decide +kernel) (by decide +kernel) (by decide) ?_
    refine V.new d_F_newTree_70 nk_F_339 (by omega) (by omega) ?_
    refine V.dup rfl d_F_newTree_73 ?_
    refine V.iload_n d_F_newTree_74 rfl ?_
    refine V.iload_n d_F_newTree_75 rfl ?_
    refine V.callI2 d_F_newTree_76 k_F_341_Wedged_initI (Nat.le_of_ble_eq_true rfl) (by omega) (by omega) (c_Wedged_init_4 up_s ?_)
    rw [up_uu]
    refine V.aret d_F_newTree_79 rfl (Or.inl ⟨_, rfl⟩) (Or.inr (Or.inl ⟨_, rfl⟩)) (Nat.le_of_ble_eq_true rfl) (Nat.le_of_ble_eq_true rfl) ?_
    exact hQ
  · skip
    refine V.tabIn (tgt := 80) (off := 79) d_F_newTree_1 (by decide +kernel) (by decide +kernel) (by decide +kernel) (by decide) ?_
    refine V.new d_F_newTree_80 nk_F_342 (by omega) (by omega) ?_
    refine V.dup rfl d_F_newTree_83 ?_
    refine V.iload_n d_F_newTree_84 rfl ?_
    refine V.iload_n d_F_newTree_85 rfl ?_
    refine V.callI2 d_F_newTree_86 k_F_344_Hollow_initI (Nat.le_of_ble_eq_true rfl) (by omega) (by omega) (c_Hollow_init_5 up_s ?_)
    rw [up_uu]
    refine V.aret d_F_newTree_89 rfl (Or.inl ⟨_, rfl⟩) (Or.inr (Or.inl ⟨_, rfl⟩)) (Nat.le_of_ble_eq_true rfl) (Nat.le_of_ble_eq_true rfl) ?_
    exact hQ
  · skip
    refine V.tabIn (tgt := 90) (off := 89) d_F_newTree_1 (by decide +kernel) (by decide +kernel) (by decide +kernel) (by decide) ?_
    refine V.new d_F_newTree_90 nk_F_345 (by omega) (by omega) ?_
    refine V.dup rfl d_F_newTree_93 ?_
    refine V.iload_n d_F_newTree_94 rfl ?_
    refine V.iload_n d_F_newTree_95 rfl ?_
    refine V.callI2 d_F_newTree_96 k_F_347_Hill_initI (Nat.le_of_ble_eq_true rfl) (by omega) (by omega) (c_Hill_init_6 up_s ?_)
    rw [up_uu]
    refine V.aret d_F_newTree_99 rfl (Or.inl ⟨_, rfl⟩) (Or.inr (Or.inl ⟨_, rfl⟩)) (Nat.le_of_ble_eq_true rfl) (Nat.le_of_ble_eq_true rfl) ?_
    exact hQ
abbrev M_Tree_takeFrom : MD := (⟨"FelledByNames$Tree", "takeFrom", "(LFelledByNames$Tree;)V"⟩, prog_10_method_2_code, 2, none, fun _ => True)
theorem d_Tree_takeFrom_0 : decode prog_10_method_2_code 0 = .ok (.aload_n 0, 1) := by decide +kernel
theorem d_Tree_takeFrom_1 : decode prog_10_method_2_code 1 = .ok (.aload_n 1, 1) := by decide +kernel
theorem d_Tree_takeFrom_2 : decode prog_10_method_2_code 2 = .ok (.getfield 7, 3) := by decide +kernel
theorem d_Tree_takeFrom_5 : decode prog_10_method_2_code 5 = .ok (.putfield 7, 3) := by decide +kernel
theorem fpt_2 : ∀ c, c ≤ 6 → fpk (6 + c) 2 (.int) := fun c hc => by
  rcases (show c = 0 ∨ c = 1 ∨ c = 2 ∨ c = 3 ∨ c = 4 ∨ c = 5 ∨ c = 6 by omega) with rfl | rfl | rfl | rfl | rfl | rfl | rfl
  · exact fp_Tree_2
  · exact fp_Beech_2
  · exact fp_Oak_2
  · exact fp_Sapling_2
  · exact fp_Wedged_2
  · exact fp_Hollow_2
  · exact fp_Hill_2
theorem d_Tree_takeFrom_8 : decode prog_10_method_2_code 8 = .ok (.aload_n 0, 1) := by decide +kernel
theorem d_Tree_takeFrom_9 : decode prog_10_method_2_code 9 = .ok (.aload_n 1, 1) := by decide +kernel
theorem d_Tree_takeFrom_10 : decode prog_10_method_2_code 10 = .ok (.getfield 13, 3) := by decide +kernel
theorem ft_Tree_13 : ∀ c, c ≤ 6 → fok "FelledByNames$Tree" 13 (6 + c) 3 := fun c hc => by
  rcases (show c = 0 ∨ c = 1 ∨ c = 2 ∨ c = 3 ∨ c = 4 ∨ c = 5 ∨ c = 6 by omega) with rfl | rfl | rfl | rfl | rfl | rfl | rfl
  · exact f_Tree_13_Tree
  · exact f_Tree_13_Beech
  · exact f_Tree_13_Oak
  · exact f_Tree_13_Sapling
  · exact f_Tree_13_Wedged
  · exact f_Tree_13_Hollow
  · exact f_Tree_13_Hill
theorem d_Tree_takeFrom_13 : decode prog_10_method_2_code 13 = .ok (.putfield 13, 3) := by decide +kernel
theorem fpt_3 : ∀ c, c ≤ 6 → fpk (6 + c) 3 (.int) := fun c hc => by
  rcases (show c = 0 ∨ c = 1 ∨ c = 2 ∨ c = 3 ∨ c = 4 ∨ c = 5 ∨ c = 6 by omega) with rfl | rfl | rfl | rfl | rfl | rfl | rfl
  · exact fp_Tree_3
  · exact fp_Beech_3
  · exact fp_Oak_3
  · exact fp_Sapling_3
  · exact fp_Wedged_3
  · exact fp_Hollow_3
  · exact fp_Hill_3
theorem d_Tree_takeFrom_16 : decode prog_10_method_2_code 16 = .ok (.aload_n 0, 1) := by decide +kernel
theorem d_Tree_takeFrom_17 : decode prog_10_method_2_code 17 = .ok (.aload_n 1, 1) := by decide +kernel
theorem d_Tree_takeFrom_18 : decode prog_10_method_2_code 18 = .ok (.getfield 16, 3) := by decide +kernel
theorem ft_Tree_16 : ∀ c, c ≤ 6 → fok "FelledByNames$Tree" 16 (6 + c) 4 := fun c hc => by
  rcases (show c = 0 ∨ c = 1 ∨ c = 2 ∨ c = 3 ∨ c = 4 ∨ c = 5 ∨ c = 6 by omega) with rfl | rfl | rfl | rfl | rfl | rfl | rfl
  · exact f_Tree_16_Tree
  · exact f_Tree_16_Beech
  · exact f_Tree_16_Oak
  · exact f_Tree_16_Sapling
  · exact f_Tree_16_Wedged
  · exact f_Tree_16_Hollow
  · exact f_Tree_16_Hill
theorem d_Tree_takeFrom_21 : decode prog_10_method_2_code 21 = .ok (.putfield 16, 3) := by decide +kernel
theorem fpt_4 : ∀ c, c ≤ 6 → fpk (6 + c) 4 (.int) := fun c hc => by
  rcases (show c = 0 ∨ c = 1 ∨ c = 2 ∨ c = 3 ∨ c = 4 ∨ c = 5 ∨ c = 6 by omega) with rfl | rfl | rfl | rfl | rfl | rfl | rfl
  · exact fp_Tree_4
  · exact fp_Beech_4
  · exact fp_Oak_4
  · exact fp_Sapling_4
  · exact fp_Wedged_4
  · exact fp_Hollow_4
  · exact fp_Hill_4
theorem d_Tree_takeFrom_24 : decode prog_10_method_2_code 24 = .ok (.aload_n 0, 1) := by decide +kernel
theorem d_Tree_takeFrom_25 : decode prog_10_method_2_code 25 = .ok (.aload_n 1, 1) := by decide +kernel
theorem d_Tree_takeFrom_26 : decode prog_10_method_2_code 26 = .ok (.getfield 19, 3) := by decide +kernel
theorem ft_Tree_19 : ∀ c, c ≤ 6 → fok "FelledByNames$Tree" 19 (6 + c) 5 := fun c hc => by
  rcases (show c = 0 ∨ c = 1 ∨ c = 2 ∨ c = 3 ∨ c = 4 ∨ c = 5 ∨ c = 6 by omega) with rfl | rfl | rfl | rfl | rfl | rfl | rfl
  · exact f_Tree_19_Tree
  · exact f_Tree_19_Beech
  · exact f_Tree_19_Oak
  · exact f_Tree_19_Sapling
  · exact f_Tree_19_Wedged
  · exact f_Tree_19_Hollow
  · exact f_Tree_19_Hill
theorem d_Tree_takeFrom_29 : decode prog_10_method_2_code 29 = .ok (.putfield 19, 3) := by decide +kernel
theorem fpt_5 : ∀ c, c ≤ 6 → fpk (6 + c) 5 (.int) := fun c hc => by
  rcases (show c = 0 ∨ c = 1 ∨ c = 2 ∨ c = 3 ∨ c = 4 ∨ c = 5 ∨ c = 6 by omega) with rfl | rfl | rfl | rfl | rfl | rfl | rfl
  · exact fp_Tree_5
  · exact fp_Beech_5
  · exact fp_Oak_5
  · exact fp_Sapling_5
  · exact fp_Wedged_5
  · exact fp_Hollow_5
  · exact fp_Hill_5
theorem d_Tree_takeFrom_32 : decode prog_10_method_2_code 32 = .ok (.aload_n 0, 1) := by decide +kernel
theorem d_Tree_takeFrom_33 : decode prog_10_method_2_code 33 = .ok (.aload_n 1, 1) := by decide +kernel
theorem d_Tree_takeFrom_34 : decode prog_10_method_2_code 34 = .ok (.getfield 22, 3) := by decide +kernel
theorem d_Tree_takeFrom_37 : decode prog_10_method_2_code 37 = .ok (.putfield 22, 3) := by decide +kernel
theorem fpt_6 : ∀ c, c ≤ 6 → fpk (6 + c) 6 (.int) := fun c hc => by
  rcases (show c = 0 ∨ c = 1 ∨ c = 2 ∨ c = 3 ∨ c = 4 ∨ c = 5 ∨ c = 6 by omega) with rfl | rfl | rfl | rfl | rfl | rfl | rfl
  · exact fp_Tree_6
  · exact fp_Beech_6
  · exact fp_Oak_6
  · exact fp_Sapling_6
  · exact fp_Wedged_6
  · exact fp_Hollow_6
  · exact fp_Hill_6
theorem d_Tree_takeFrom_40 : decode prog_10_method_2_code 40 = .ok (.aload_n 0, 1) := by decide +kernel
theorem d_Tree_takeFrom_41 : decode prog_10_method_2_code 41 = .ok (.aload_n 1, 1) := by decide +kernel
theorem d_Tree_takeFrom_42 : decode prog_10_method_2_code 42 = .ok (.getfield 25, 3) := by decide +kernel
theorem ft_Tree_25 : ∀ c, c ≤ 6 → fok "FelledByNames$Tree" 25 (6 + c) 7 := fun c hc => by
  rcases (show c = 0 ∨ c = 1 ∨ c = 2 ∨ c = 3 ∨ c = 4 ∨ c = 5 ∨ c = 6 by omega) with rfl | rfl | rfl | rfl | rfl | rfl | rfl
  · exact f_Tree_25_Tree
  · exact f_Tree_25_Beech
  · exact f_Tree_25_Oak
  · exact f_Tree_25_Sapling
  · exact f_Tree_25_Wedged
  · exact f_Tree_25_Hollow
  · exact f_Tree_25_Hill
theorem d_Tree_takeFrom_45 : decode prog_10_method_2_code 45 = .ok (.putfield 25, 3) := by decide +kernel
theorem fpt_7 : ∀ c, c ≤ 6 → fpk (6 + c) 7 (.boolean) := fun c hc => by
  rcases (show c = 0 ∨ c = 1 ∨ c = 2 ∨ c = 3 ∨ c = 4 ∨ c = 5 ∨ c = 6 by omega) with rfl | rfl | rfl | rfl | rfl | rfl | rfl
  · exact fp_Tree_7
  · exact fp_Beech_7
  · exact fp_Oak_7
  · exact fp_Sapling_7
  · exact fp_Wedged_7
  · exact fp_Hollow_7
  · exact fp_Hill_7
theorem d_Tree_takeFrom_48 : decode prog_10_method_2_code 48 = .ok (.return_, 1) := by decide +kernel
set_option maxRecDepth 100000 in
theorem c_Tree_takeFrom {a b ka kb : Nat} {f0 f1 f2 f3 f4 f5 f6 f7 g0 g1 g2 g3 g4 g5 g6 : Int32} {g7 : Bool} {l : Launch} {d n : Nat} {h : HP} {Q : QT} (hka : ka ≤ 6) (hkb : kb ≤ 6) (hab : b ≠ a) (ha : h a = some (.inr (6 + ka, [.int f0, .int f1, .int f2, .int f3, .int f4, .int f5, .int f6, .int f7]))) (hb : h b = some (.inr (6 + kb, [.int g0, .int g1, .int g2, .int g3, .int g4, .int g5, .int g6, .int (bi g7)]))) (hQ : Q none n (up h a (.inr (6 + ka, [.int f0, .int f1, .int g2, .int g3, .int g4, .int g5, .int g6, .int (bi g7)])))) : Ct l M_Tree_takeFrom d 0 0 [.ref a, .ref b] n h Q := by
  refine Ct.of (fun _ => trivial) (by decide) (Nat.le_of_ble_eq_true rfl) ?_
  refine V.aload_n d_Tree_takeFrom_0 rfl ?_
  refine V.aload_n d_Tree_takeFrom_1 rfl ?_
  refine V.get d_Tree_takeFrom_2 (ft_Tree_7 _ hkb) hb rfl ?_
  refine V.put d_Tree_takeFrom_5 (ft_Tree_7 _ hka) (fpt_2 _ hka) (fun _ => rfl) (fun _ => rfl) ha (Nat.le_of_ble_eq_true rfl) ?_
  try rw [up_uu]
  refine V.aload_n d_Tree_takeFrom_8 rfl ?_
  refine V.aload_n d_Tree_takeFrom_9 rfl ?_
  refine V.get d_Tree_takeFrom_10 (ft_Tree_13 _ hkb) ((up_n hab).trans hb) rfl ?_
  refine V.put d_Tree_takeFrom_13 (ft_Tree_13 _ hka) (fpt_3 _ hka) (fun _ => rfl) (fun _ => rfl) up_s (Nat.le_of_ble_eq_true rfl) ?_
  try rw [up_uu]
  refine V.aload_n d_Tree_takeFrom_16 rfl ?_
  refine V.aload_n d_Tree_takeFrom_17 rfl ?_
  refine V.get d_Tree_takeFrom_18 (ft_Tree_16 _ hkb) ((up_n hab).trans hb) rfl ?_
  refine V.put d_Tree_takeFrom_21 (ft_Tree_16 _ hka) (fpt_4 _ hka) (fun _ => rfl) (fun _ => rfl) up_s (Nat.le_of_ble_eq_true rfl) ?_
  try rw [up_uu]
  refine V.aload_n d_Tree_takeFrom_24 rfl ?_
  refine V.aload_n d_Tree_takeFrom_25 rfl ?_
  refine V.get d_Tree_takeFrom_26 (ft_Tree_19 _ hkb) ((up_n hab).trans hb) rfl ?_
  refine V.put d_Tree_takeFrom_29 (ft_Tree_19 _ hka) (fpt_5 _ hka) (fun _ => rfl) (fun _ => rfl) up_s (Nat.le_of_ble_eq_true rfl) ?_
  try rw [up_uu]
  refine V.aload_n d_Tree_takeFrom_32 rfl ?_
  refine V.aload_n d_Tree_takeFrom_33 rfl ?_
  refine V.get d_Tree_takeFrom_34 (ft_Tree_22 _ hkb) ((up_n hab).trans hb) rfl ?_
  refine V.put d_Tree_takeFrom_37 (ft_Tree_22 _ hka) (fpt_6 _ hka) (fun _ => rfl) (fun _ => rfl) up_s (Nat.le_of_ble_eq_true rfl) ?_
  try rw [up_uu]
  refine V.aload_n d_Tree_takeFrom_40 rfl ?_
  refine V.aload_n d_Tree_takeFrom_41 rfl ?_
  refine V.get d_Tree_takeFrom_42 (ft_Tree_25 _ hkb) ((up_n hab).trans hb) rfl ?_
  refine V.put d_Tree_takeFrom_45 (ft_Tree_25 _ hka) (fpt_7 _ hka) (fun _ => bi_nar _) (fun _ => bi_fit _) up_s (Nat.le_of_ble_eq_true rfl) ?_
  try rw [up_uu]
  refine V.vret d_Tree_takeFrom_48 rfl (Nat.le_of_ble_eq_true rfl) (Nat.le_of_ble_eq_true rfl) ?_
  exact hQ
