abbrev M_Mo_opens : MD := (⟨"FelledByNamesModel", "opens", "(I)V"⟩, prog_14_method_24_code, 2, none, fun _ => True)
theorem d_Mo_opens_0 : decode prog_14_method_24_code 0 = .ok (.aload_n 0, 1) := by decide +kernel
theorem d_Mo_opens_1 : decode prog_14_method_24_code 1 = .ok (.getfield 112, 3) := by decide +kernel
theorem f_Mo_112_Mo : fok "FelledByNamesModel" 112 5 9 := ⟨R_Mo, F_Mo, 26, "FelledByNamesModel", rfl, i_Mo, by decide, tm 1068 (by decide +kernel) rfl, Or.inl rfl, t_Mo, t_Mo_ok, n_Mo⟩
theorem d_Mo_opens_4 : decode prog_14_method_24_code 4 = .ok (.iconst 5, 1) := by decide +kernel
theorem d_Mo_opens_5 : decode prog_14_method_24_code 5 = .ok (.if_icmp .ne 8, 3) := by decide +kernel
theorem d_Mo_opens_8 : decode prog_14_method_24_code 8 = .ok (.aload_n 0, 1) := by decide +kernel
theorem d_Mo_opens_9 : decode prog_14_method_24_code 9 = .ok (.invokevirtual 115, 3) := by decide +kernel
theorem kB_Mo_wrong : kB M_Mo_wrong 0 := ⟨tm 15 (by decide +kernel) rfl, tm 1195 (by decide +kernel) rfl, ⟨by decide, by decide, by decide +kernel⟩, by decide⟩
theorem k_Mo_115_Mo_wrong_MoV : kV "FelledByNamesModel" 115 5 M_Mo_wrong 0 := ⟨kB_Mo_wrong, tm 1192 (by decide +kernel) rfl, tm 1194 (by decide +kernel) rfl, tp 23 (by decide +kernel) rfl, _, rfl, rfl⟩
theorem d_Mo_opens_12 : decode prog_14_method_24_code 12 = .ok (.return_, 1) := by decide +kernel
set_option maxRecDepth 100000 in
theorem c_Mo_opens5 {l : Launch} {q : Nat} {D : Nat → Int32} {A : Nat → Nat → Int32} {S : Nat → Int32} {h0 : HP} {sz : Nat} {wd : Bool} {y n : Nat} {Q : QT} {s : PS} {x : Int32} (hz : sz ≤ 50) (h1 : s.1 ≤ sz) (hQ : Q none n (mo q D (uA A 5 (wrt (A 5) 0 (wg s).2.2)) (pS S sz wd 5 (wg s)) h0)) : Ct l M_Mo_opens (y + 1) 0 0 [.ref q, .int x] n (mo q D (uA A 5 (wrt (A 5) 0 (s).2.2)) (pS S sz wd 5 (s)) h0) Q := by
  refine Ct.of (fun _ => trivial) (by decide) (Nat.le_of_ble_eq_true rfl) ?_
  refine V.aload_n d_Mo_opens_0 rfl ?_
  refine V.get d_Mo_opens_1 f_Mo_112_Mo mo_o rfl ?_
  refine V.top (y := nI (5)) rfl ?_
  refine V.iconst_ (nI 5) d_Mo_opens_4 (by decide +kernel) ?_
  refine V.neN (tgt := 13) d_Mo_opens_5 (by decide) (by omega) (by omega) (fun c_5 => ?_) (fun c_5 => ?_)
  · skip
    exact absurd rfl c_5
  · skip
    refine V.aload_n d_Mo_opens_8 rfl ?_
    refine V.callV0 d_Mo_opens_9 k_Mo_115_Mo_wrong_MoV mo_o (Nat.le_of_ble_eq_true rfl) (by omega) (by omega) (c_Mo_wrong hz h1 ?_)
    refine V.vret d_Mo_opens_12 rfl (Nat.le_of_ble_eq_true rfl) (Nat.le_of_ble_eq_true rfl) ?_
    exact hQ
theorem d_Mo_opens_13 : decode prog_14_method_24_code 13 = .ok (.aload_n 0, 1) := by decide +kernel
theorem d_Mo_opens_14 : decode prog_14_method_24_code 14 = .ok (.dup, 1) := by decide +kernel
theorem d_Mo_opens_15 : decode prog_14_method_24_code 15 = .ok (.getfield 112, 3) := by decide +kernel
theorem d_Mo_opens_18 : decode prog_14_method_24_code 18 = .ok (.iconst 1, 1) := by decide +kernel
theorem d_Mo_opens_19 : decode prog_14_method_24_code 19 = .ok (.iadd, 1) := by decide +kernel
theorem d_Mo_opens_20 : decode prog_14_method_24_code 20 = .ok (.putfield 112, 3) := by decide +kernel
theorem fp_Mo_9 : fpk 5 9 (.int) := ⟨_, _, _, rfl, rfl, by decide +kernel⟩
theorem d_Mo_opens_23 : decode prog_14_method_24_code 23 = .ok (.aload_n 0, 1) := by decide +kernel
theorem d_Mo_opens_24 : decode prog_14_method_24_code 24 = .ok (.dup, 1) := by decide +kernel
theorem d_Mo_opens_25 : decode prog_14_method_24_code 25 = .ok (.getfield 66, 3) := by decide +kernel
theorem d_Mo_opens_28 : decode prog_14_method_24_code 28 = .ok (.iconst 1, 1) := by decide +kernel
theorem d_Mo_opens_29 : decode prog_14_method_24_code 29 = .ok (.iadd, 1) := by decide +kernel
theorem d_Mo_opens_30 : decode prog_14_method_24_code 30 = .ok (.putfield 66, 3) := by decide +kernel
theorem d_Mo_opens_33 : decode prog_14_method_24_code 33 = .ok (.iload_n 1, 1) := by decide +kernel
theorem d_Mo_opens_34 : decode prog_14_method_24_code 34 = .ok (.bipush 33, 2) := by decide +kernel
theorem d_Mo_opens_36 : decode prog_14_method_24_code 36 = .ok (.if_icmp .ne 17, 3) := by decide +kernel
theorem d_Mo_opens_39 : decode prog_14_method_24_code 39 = .ok (.aload_n 0, 1) := by decide +kernel
theorem d_Mo_opens_40 : decode prog_14_method_24_code 40 = .ok (.invokevirtual 109, 3) := by decide +kernel
theorem d_Mo_opens_43 : decode prog_14_method_24_code 43 = .ok (.aload_n 0, 1) := by decide +kernel
theorem d_Mo_opens_44 : decode prog_14_method_24_code 44 = .ok (.sipush 20033, 3) := by decide +kernel
theorem d_Mo_opens_47 : decode prog_14_method_24_code 47 = .ok (.invokevirtual 96, 3) := by decide +kernel
theorem d_Mo_opens_50 : decode prog_14_method_24_code 50 = .ok (.goto 20, 3) := by decide +kernel
theorem d_Mo_opens_70 : decode prog_14_method_24_code 70 = .ok (.aload_n 0, 1) := by decide +kernel
theorem d_Mo_opens_71 : decode prog_14_method_24_code 71 = .ok (.dup, 1) := by decide +kernel
theorem d_Mo_opens_72 : decode prog_14_method_24_code 72 = .ok (.getfield 112, 3) := by decide +kernel
theorem d_Mo_opens_75 : decode prog_14_method_24_code 75 = .ok (.iconst 1, 1) := by decide +kernel
theorem d_Mo_opens_76 : decode prog_14_method_24_code 76 = .ok (.isub, 1) := by decide +kernel
theorem d_Mo_opens_77 : decode prog_14_method_24_code 77 = .ok (.putfield 112, 3) := by decide +kernel
theorem d_Mo_opens_80 : decode prog_14_method_24_code 80 = .ok (.return_, 1) := by decide +kernel
set_option maxRecDepth 100000 in
theorem c_Mo_opens33 {l : Launch} {q : Nat} {D : Nat → Int32} {A : Nat → Nat → Int32} {S : Nat → Int32} {h0 : HP} {sz op : Nat} {wd : Bool} {u : PS → PS} {y n : Nat} {Q : QT} {s : PS} (hz : sz ≤ 50) (hop : op < 5) (gu : Gp sz u) (hu : (∀ (n : Nat) (Q : QT) (s : PS), s.1 ≤ sz → s.2.2.length ≤ s.1 → Q none n (mo q D (uA A 5 (wrt (A 5) 0 ((u) s).2.2)) (pS S sz wd (op + 1) ((u) s)) h0) → Ct l M_Mo_unit (y + 1) 0 0 [.ref q] n (mo q D (uA A 5 (wrt (A 5) 0 (s).2.2)) (pS S sz wd (op + 1) (s)) h0) Q)) (h1 : s.1 ≤ sz) (h2 : s.2.2.length ≤ s.1) (hc : hr (fun j => D (228 + j)) sz s = nI 33) (hQ : Q none n (mo q D (uA A 5 (wrt (A 5) 0 (ly 20033 (u (adv s))).2.2)) (pS S sz wd op (ly 20033 (u (adv s)))) h0)) : Ct l M_Mo_opens (y + 2) 0 0 [.ref q, .int (nI 33)] n (mo q D (uA A 5 (wrt (A 5) 0 (s).2.2)) (pS S sz wd op (s)) h0) Q := by
  have hx := (hr_lt (by decide) hc).1
  have hxf := (hr_lt (by decide) hc).2
  obtain ⟨g1, g2, g3⟩ := gu (adv s) hx
  have ga : (adv s).1 = s.1 + 1 := rfl
  have gb : (adv s).2.2 = s.2.2 := rfl
  rw [ga] at g1 g3
  rw [gb] at g3
  refine Ct.of (fun _ => trivial) (by decide) (Nat.le_of_ble_eq_true rfl) ?_
  refine V.aload_n d_Mo_opens_0 rfl ?_
  refine V.get d_Mo_opens_1 f_Mo_112_Mo mo_o rfl ?_
  refine V.top (y := nI (op)) rfl ?_
  refine V.iconst_ (nI 5) d_Mo_opens_4 (by decide +kernel) ?_
  refine V.neN (tgt := 13) d_Mo_opens_5 (by decide) (by omega) (by omega) (fun c_5 => ?_) (fun c_5 => ?_)
  · skip
    refine V.aload_n d_Mo_opens_13 rfl ?_
    refine V.dup rfl d_Mo_opens_14 ?_
    refine V.get d_Mo_opens_15 f_Mo_112_Mo mo_o rfl ?_
    refine V.top (y := nI (op)) rfl ?_
    refine V.iconst_ (nI 1) d_Mo_opens_18 (by decide +kernel) ?_
    refine V.addN d_Mo_opens_19 ?_
    refine V.mput d_Mo_opens_20 f_Mo_112_Mo fp_Mo_9 rfl (by decide) ?_
    rw [pS_op]
    refine V.aload_n d_Mo_opens_23 rfl ?_
    refine V.dup rfl d_Mo_opens_24 ?_
    refine V.get d_Mo_opens_25 f_Mo_66_Mo mo_o rfl ?_
    refine V.top (y := nI (s.1)) rfl ?_
    refine V.iconst_ (nI 1) d_Mo_opens_28 (by decide +kernel) ?_
    refine V.addN d_Mo_opens_29 ?_
    refine V.mput d_Mo_opens_30 f_Mo_66_Mo fp_Mo_6 rfl (by decide) ?_
    rw [pS_at hxf]
    refine V.iload_n d_Mo_opens_33 rfl ?_
    refine V.bipush_ (nI 33) d_Mo_opens_34 (by decide +kernel) ?_
    refine V.neN (tgt := 53) d_Mo_opens_36 (by decide) (by omega) (by omega) (fun c_36 => ?_) (fun c_36 => ?_)
    · skip
      exact absurd rfl c_36
    · skip
      refine V.aload_n d_Mo_opens_39 rfl ?_
      refine V.callV0 d_Mo_opens_40 k_Mo_109_Mo_unit_MoV mo_o (Nat.le_of_ble_eq_true rfl) (by omega) (by omega) (hu _ _ (adv s) (by show s.1 + 1 ≤ sz; omega) (by show s.2.2.length ≤ s.1 + 1; omega) ?_)
      refine V.aload_n d_Mo_opens_43 rfl ?_
      refine V.sipush_ (nI 20033) d_Mo_opens_44 (by decide +kernel) ?_
      refine V.callV1 d_Mo_opens_47 k_Mo_96_Mo_lay_MoV mo_o (Nat.le_of_ble_eq_true rfl) (by omega) (by omega) (c_Mo_lay (s := u (adv s)) hz g2 (by omega) ?_)
      refine V.goto (tgt := 70) d_Mo_opens_50 (by decide) ?_
      refine V.aload_n d_Mo_opens_70 rfl ?_
      refine V.dup rfl d_Mo_opens_71 ?_
      refine V.get d_Mo_opens_72 f_Mo_112_Mo mo_o rfl ?_
      refine V.top (y := nI (op + 1)) rfl ?_
      refine V.iconst_ (nI 1) d_Mo_opens_75 (by decide +kernel) ?_
      refine V.subN d_Mo_opens_76 (by omega) ?_
      refine V.mput d_Mo_opens_77 f_Mo_112_Mo fp_Mo_9 rfl (by decide) ?_
      rw [pS_op]
      refine V.vret d_Mo_opens_80 rfl (Nat.le_of_ble_eq_true rfl) (Nat.le_of_ble_eq_true rfl) ?_
      exact hQ
  · skip
    exact absurd c_5 (by omega)
theorem d_Mo_opens_53 : decode prog_14_method_24_code 53 = .ok (.aload_n 0, 1) := by decide +kernel
theorem d_Mo_opens_54 : decode prog_14_method_24_code 54 = .ok (.invokevirtual 118, 3) := by decide +kernel
theorem kB_Mo_either : kB M_Mo_either 0 := ⟨tm 15 (by decide +kernel) rfl, tm 1163 (by decide +kernel) rfl, ⟨by decide, by decide, by decide +kernel⟩, by decide⟩
theorem k_Mo_118_Mo_either_MoV : kV "FelledByNamesModel" 118 5 M_Mo_either 0 := ⟨kB_Mo_either, tm 1160 (by decide +kernel) rfl, tm 1162 (by decide +kernel) rfl, tp 15 (by decide +kernel) rfl, _, rfl, rfl⟩
theorem d_Mo_opens_57 : decode prog_14_method_24_code 57 = .ok (.aload_n 0, 1) := by decide +kernel
theorem d_Mo_opens_58 : decode prog_14_method_24_code 58 = .ok (.bipush 41, 2) := by decide +kernel
theorem d_Mo_opens_60 : decode prog_14_method_24_code 60 = .ok (.invokevirtual 93, 3) := by decide +kernel
theorem d_Mo_opens_63 : decode prog_14_method_24_code 63 = .ok (.ifCond .ne 7, 3) := by decide +kernel
theorem d_Mo_opens_66 : decode prog_14_method_24_code 66 = .ok (.aload_n 0, 1) := by decide +kernel
theorem d_Mo_opens_67 : decode prog_14_method_24_code 67 = .ok (.invokevirtual 115, 3) := by decide +kernel
set_option maxRecDepth 100000 in
theorem c_Mo_opens40 {l : Launch} {q : Nat} {D : Nat → Int32} {A : Nat → Nat → Int32} {S : Nat → Int32} {h0 : HP} {sz op : Nat} {wd : Bool} {u : PS → PS} {y n : Nat} {Q : QT} {s : PS} (hz : sz ≤ 50) (hop : op < 5) (gu : Gp sz u) (hu : (∀ (n : Nat) (Q : QT) (s : PS), s.1 ≤ sz → s.2.2.length ≤ s.1 → Q none n (mo q D (uA A 5 (wrt (A 5) 0 ((u) s).2.2)) (pS S sz wd (op + 1) ((u) s)) h0) → Ct l M_Mo_either (y + 1) 0 0 [.ref q] n (mo q D (uA A 5 (wrt (A 5) 0 (s).2.2)) (pS S sz wd (op + 1) (s)) h0) Q)) (h1 : s.1 ≤ sz) (h2 : s.2.2.length ≤ s.1) (hc : hr (fun j => D (228 + j)) sz s = nI 40) (hQ : Q none n (mo q D (uA A 5 (wrt (A 5) 0 (clP (fun j => D (228 + j)) sz (u (adv s))).2.2)) (pS S sz wd op (clP (fun j => D (228 + j)) sz (u (adv s)))) h0)) : Ct l M_Mo_opens (y + 2) 0 0 [.ref q, .int (nI 40)] n (mo q D (uA A 5 (wrt (A 5) 0 (s).2.2)) (pS S sz wd op (s)) h0) Q := by
  have hx := (hr_lt (by decide) hc).1
  have hxf := (hr_lt (by decide) hc).2
  obtain ⟨g1, g2, g3⟩ := gu (adv s) hx
  have ga : (adv s).1 = s.1 + 1 := rfl
  have gb : (adv s).2.2 = s.2.2 := rfl
  rw [ga] at g1 g3
  rw [gb] at g3
  refine Ct.of (fun _ => trivial) (by decide) (Nat.le_of_ble_eq_true rfl) ?_
  refine V.aload_n d_Mo_opens_0 rfl ?_
  refine V.get d_Mo_opens_1 f_Mo_112_Mo mo_o rfl ?_
  refine V.top (y := nI (op)) rfl ?_
  refine V.iconst_ (nI 5) d_Mo_opens_4 (by decide +kernel) ?_
  refine V.neN (tgt := 13) d_Mo_opens_5 (by decide) (by omega) (by omega) (fun c_5 => ?_) (fun c_5 => ?_)
  · skip
    refine V.aload_n d_Mo_opens_13 rfl ?_
    refine V.dup rfl d_Mo_opens_14 ?_
    refine V.get d_Mo_opens_15 f_Mo_112_Mo mo_o rfl ?_
    refine V.top (y := nI (op)) rfl ?_
    refine V.iconst_ (nI 1) d_Mo_opens_18 (by decide +kernel) ?_
    refine V.addN d_Mo_opens_19 ?_
    refine V.mput d_Mo_opens_20 f_Mo_112_Mo fp_Mo_9 rfl (by decide) ?_
    rw [pS_op]
    refine V.aload_n d_Mo_opens_23 rfl ?_
    refine V.dup rfl d_Mo_opens_24 ?_
    refine V.get d_Mo_opens_25 f_Mo_66_Mo mo_o rfl ?_
    refine V.top (y := nI (s.1)) rfl ?_
    refine V.iconst_ (nI 1) d_Mo_opens_28 (by decide +kernel) ?_
    refine V.addN d_Mo_opens_29 ?_
    refine V.mput d_Mo_opens_30 f_Mo_66_Mo fp_Mo_6 rfl (by decide) ?_
    rw [pS_at hxf]
    refine V.iload_n d_Mo_opens_33 rfl ?_
    refine V.bipush_ (nI 33) d_Mo_opens_34 (by decide +kernel) ?_
    refine V.neN (tgt := 53) d_Mo_opens_36 (by decide) (by omega) (by omega) (fun c_36 => ?_) (fun c_36 => ?_)
    · skip
      refine V.aload_n d_Mo_opens_53 rfl ?_
      refine V.callV0 d_Mo_opens_54 k_Mo_118_Mo_either_MoV mo_o (Nat.le_of_ble_eq_true rfl) (by omega) (by omega) (hu _ _ (adv s) (by show s.1 + 1 ≤ sz; omega) (by show s.2.2.length ≤ s.1 + 1; omega) ?_)
      refine V.aload_n d_Mo_opens_57 rfl ?_
      refine V.bipush_ (nI 41) d_Mo_opens_58 (by decide +kernel) ?_
      refine V.callV1 d_Mo_opens_60 k_Mo_93_Mo_takes_MoV mo_o (Nat.le_of_ble_eq_true rfl) (by omega) (by omega) (c_Mo_tk (s := u (adv s)) (by decide) hz g2 ?_)
      refine V.ifneB (tgt := 70) d_Mo_opens_63 (by decide) (fun c_63 => ?_) (fun c_63 => ?_)
      · skip
        refine V.aload_n d_Mo_opens_70 rfl ?_
        refine V.dup rfl d_Mo_opens_71 ?_
        refine V.get d_Mo_opens_72 f_Mo_112_Mo mo_o rfl ?_
        refine V.top (y := nI (op + 1)) rfl ?_
        refine V.iconst_ (nI 1) d_Mo_opens_75 (by decide +kernel) ?_
        refine V.subN d_Mo_opens_76 (by omega) ?_
        refine V.mput d_Mo_opens_77 f_Mo_112_Mo fp_Mo_9 rfl (by decide) ?_
        rw [pS_op]
        refine V.vret d_Mo_opens_80 rfl (Nat.le_of_ble_eq_true rfl) (Nat.le_of_ble_eq_true rfl) ?_
        first
        | (rw [show clP (fun j => D (228 + j)) sz (u (adv s)) = wg (u (adv s)) from if_neg (of_decide_eq_false c_63)] at hQ; exact hQ)
        | (rw [show clP (fun j => D (228 + j)) sz (u (adv s)) = adv (u (adv s)) from if_pos (of_decide_eq_true c_63)] at hQ; rw [show tkP (fun j => D (228 + j)) sz 41 (u (adv s)) = adv (u (adv s)) from if_pos (of_decide_eq_true c_63)]; exact hQ)
      · skip
        rw [show tkP (fun j => D (228 + j)) sz 41 (u (adv s)) = u (adv s) from if_neg (of_decide_eq_false c_63)]
        refine V.aload_n d_Mo_opens_66 rfl ?_
        refine V.callV0 d_Mo_opens_67 k_Mo_115_Mo_wrong_MoV mo_o (Nat.le_of_ble_eq_true rfl) (by omega) (by omega) (c_Mo_wrong (s := u (adv s)) hz g2 ?_)
        refine V.aload_n d_Mo_opens_70 rfl ?_
        refine V.dup rfl d_Mo_opens_71 ?_
        refine V.get d_Mo_opens_72 f_Mo_112_Mo mo_o rfl ?_
        refine V.top (y := nI (op + 1)) rfl ?_
        refine V.iconst_ (nI 1) d_Mo_opens_75 (by decide +kernel) ?_
        refine V.subN d_Mo_opens_76 (by omega) ?_
        refine V.mput d_Mo_opens_77 f_Mo_112_Mo fp_Mo_9 rfl (by decide) ?_
        rw [pS_op]
        refine V.vret d_Mo_opens_80 rfl (Nat.le_of_ble_eq_true rfl) (Nat.le_of_ble_eq_true rfl) ?_
        first
        | (rw [show clP (fun j => D (228 + j)) sz (u (adv s)) = wg (u (adv s)) from if_neg (of_decide_eq_false c_63)] at hQ; exact hQ)
        | (rw [show clP (fun j => D (228 + j)) sz (u (adv s)) = adv (u (adv s)) from if_pos (of_decide_eq_true c_63)] at hQ; rw [show tkP (fun j => D (228 + j)) sz 41 (u (adv s)) = adv (u (adv s)) from if_pos (of_decide_eq_true c_63)]; exact hQ)
    · skip
      exact absurd c_36 (by decide)
  · skip
    exact absurd c_5 (by omega)
theorem d_Mo_unit_58 : decode prog_14_method_25_code 58 = .ok (.iload 4, 2) := by decide +kernel
theorem d_Mo_unit_60 : decode prog_14_method_25_code 60 = .ok (.iconst 4, 1) := by decide +kernel
theorem d_Mo_unit_61 : decode prog_14_method_25_code 61 = .ok (.if_icmp .ge 49, 3) := by decide +kernel
theorem d_Mo_unit_64 : decode prog_14_method_25_code 64 = .ok (.aload_n 0, 1) := by decide +kernel
theorem d_Mo_unit_65 : decode prog_14_method_25_code 65 = .ok (.invokevirtual 79, 3) := by decide +kernel
theorem d_Mo_unit_68 : decode prog_14_method_25_code 68 = .ok (.i2l, 1) := by decide +kernel
theorem d_Mo_unit_69 : decode prog_14_method_25_code 69 = .ok (.ldc2_w 128, 3) := by decide +kernel
theorem d_Mo_unit_72 : decode prog_14_method_25_code 72 = .ok (.ldc2_w 130, 3) := by decide +kernel
theorem d_Mo_unit_75 : decode prog_14_method_25_code 75 = .ok (.invokestatic 56, 3) := by decide +kernel
theorem d_Mo_unit_78 : decode prog_14_method_25_code 78 = .ok (.ifCond .eq 32, 3) := by decide +kernel
theorem d_Mo_unit_81 : decode prog_14_method_25_code 81 = .ok (.bipush 10, 2) := by decide +kernel
theorem d_Mo_unit_83 : decode prog_14_method_25_code 83 = .ok (.iload_n 3, 1) := by decide +kernel
theorem d_Mo_unit_84 : decode prog_14_method_25_code 84 = .ok (.imul, 1) := by decide +kernel
theorem d_Mo_unit_85 : decode prog_14_method_25_code 85 = .ok (.aload_n 0, 1) := by decide +kernel
theorem d_Mo_unit_86 : decode prog_14_method_25_code 86 = .ok (.invokevirtual 79, 3) := by decide +kernel
theorem d_Mo_unit_89 : decode prog_14_method_25_code 89 = .ok (.iadd, 1) := by decide +kernel
theorem d_Mo_unit_90 : decode prog_14_method_25_code 90 = .ok (.bipush 48, 2) := by decide +kernel
theorem d_Mo_unit_92 : decode prog_14_method_25_code 92 = .ok (.isub, 1) := by decide +kernel
theorem d_Mo_unit_93 : decode prog_14_method_25_code 93 = .ok (.istore_n 3, 1) := by decide +kernel
theorem d_Mo_unit_94 : decode prog_14_method_25_code 94 = .ok (.aload_n 0, 1) := by decide +kernel
theorem d_Mo_unit_95 : decode prog_14_method_25_code 95 = .ok (.dup, 1) := by decide +kernel
theorem d_Mo_unit_96 : decode prog_14_method_25_code 96 = .ok (.getfield 66, 3) := by decide +kernel
theorem d_Mo_unit_99 : decode prog_14_method_25_code 99 = .ok (.iconst 1, 1) := by decide +kernel
theorem d_Mo_unit_100 : decode prog_14_method_25_code 100 = .ok (.iadd, 1) := by decide +kernel
theorem d_Mo_unit_101 : decode prog_14_method_25_code 101 = .ok (.putfield 66, 3) := by decide +kernel
theorem d_Mo_unit_104 : decode prog_14_method_25_code 104 = .ok (.iinc 4 1, 3) := by decide +kernel
theorem d_Mo_unit_107 : decode prog_14_method_25_code 107 = .ok (.goto (-49), 3) := by decide +kernel
set_option maxRecDepth 100000 in
theorem unit_digits {l : Launch} {q : Nat} {D : Nat → Int32} {A : Nat → Nat → Int32} {S : Nat → Int32} {h0 : HP} {sz op : Nat} {wd : Bool} {y n : Nat} {Q : QT} {s : PS} (hz : sz ≤ 50) : ∀ (k : Nat) (x : Nat × PS) (j : Nat), j + k = 4 → x.2.1 = s.1 + j → x.2.1 ≤ sz → x.2.2 = s.2 → V l M_Mo_unit (y + 1) 0 0 110 [(0, .ref q), (3, .int (nI (dgt (fun j => D (228 + j)) sz k x).1)), (4, .int (nI ((dgt (fun j => D (228 + j)) sz k x).2.1 - s.1)))] [] n (mo q D (uA A 5 (wrt (A 5) 0 ((dgt (fun j => D (228 + j)) sz k x).2).2.2)) (pS S sz wd op ((dgt (fun j => D (228 + j)) sz k x).2)) h0) 0 0 Q → V l M_Mo_unit (y + 1) 0 0 58 [(0, .ref q), (3, .int (nI x.1)), (4, .int (nI j))] [] n (mo q D (uA A 5 (wrt (A 5) 0 (x.2).2.2)) (pS S sz wd op (x.2)) h0) 0 0 Q := by
  intro k
  induction k with
  | zero =>
    intro x j hj e1 h1 e2 hQ
    refine V.iload d_Mo_unit_58 rfl ?_
    refine V.iconst_ (nI 4) d_Mo_unit_60 (by decide +kernel) ?_
    refine V.geN (tgt := 110) d_Mo_unit_61 (by decide) (by omega) (by omega) (fun c_61 => ?_) (fun c_61 => ?_)
    · skip
      have e4 : x.2.1 - s.1 = j := by omega
      have e5 : dgt (fun j => D (228 + j)) sz 0 x = x := rfl
      rw [e5, e4] at hQ
      exact V.lc rfl hQ
    · skip
      exact absurd c_61 (by omega)
  | succ k ih =>
    intro x j hj e1 h1 e2 hQ
    refine V.iload d_Mo_unit_58 rfl ?_
    refine V.iconst_ (nI 4) d_Mo_unit_60 (by decide +kernel) ?_
    refine V.geN (tgt := 110) d_Mo_unit_61 (by decide) (by omega) (by omega) (fun c_61 => ?_) (fun c_61 => ?_)
    · skip
      first
      | exact absurd c_61 (by omega)
      | (have e4 : x.2.1 - s.1 = j := by omega
         have e5 : dgt (fun j => D (228 + j)) sz (k + 1) x = x := if_neg (by rw [c_78]; decide)
         rw [e5, e4] at hQ
         exact V.lc rfl hQ)
    · skip
      refine V.aload_n d_Mo_unit_64 rfl ?_
      refine V.callV0 d_Mo_unit_65 k_Mo_79_Mo_here_MoV mo_o (Nat.le_of_ble_eq_true rfl) (by omega) (by omega) (c_Mo_here hz h1 ?_)
      refine V.i2l d_Mo_unit_68 ?_
      refine V.ldc2 (v := 48) d_Mo_unit_69 (tm 1208 (by decide +kernel) rfl) ?_
      refine V.eqS (st' := .long ((nI 48).toInt64) :: _) rfl ?_
      refine V.ldc2 (v := 57) d_Mo_unit_72 (tm 1209 (by decide +kernel) rfl) ?_
      refine V.eqS (st' := .long ((nI 57).toInt64) :: _) rfl ?_
      refine V.callS3 d_Mo_unit_75 k_Mo_56_Mo_inS (Nat.le_of_ble_eq_true rfl) (by omega) (by omega) (c_Mo_in ?_)
      refine V.ifeqB (tgt := 110) d_Mo_unit_78 (by decide) (fun c_78 => ?_) (fun c_78 => ?_)
      · skip
        first
        | exact absurd c_61 (by omega)
        | (have e4 : x.2.1 - s.1 = j := by omega
           have e5 : dgt (fun j => D (228 + j)) sz (k + 1) x = x := if_neg (by rw [c_78]; decide)
           rw [e5, e4] at hQ
           exact V.lc rfl hQ)
      · skip
        obtain ⟨hx, hxf⟩ := hr_lt9 c_78
        obtain ⟨w1, w2⟩ := wi_t c_78
        obtain ⟨c, hc, ec⟩ := wi_nat (k := 57) (by decide) (show wi (hr (fun j => D (228 + j)) sz x.2) 0 (nI 57) = true by unfold wi; rw [decide_eq_true w2, decide_eq_true (Int32.le_trans (by decide +kernel) w1)]; rfl)
        have hc48 : 48 ≤ c := (nI_leI (by decide) (by omega)).mp (by rw [← ec]; exact w1)
        refine V.bipush_ (nI 10) d_Mo_unit_81 (by decide +kernel) ?_
        refine V.iload_n d_Mo_unit_83 rfl ?_
        refine V.mulN d_Mo_unit_84 ?_
        refine V.aload_n d_Mo_unit_85 rfl ?_
        refine V.callV0 d_Mo_unit_86 k_Mo_79_Mo_here_MoV mo_o (Nat.le_of_ble_eq_true rfl) (by omega) (by omega) (c_Mo_here hz h1 ?_)
        refine V.top (y := nI c) ec ?_
        refine V.addN d_Mo_unit_89 ?_
        refine V.bipush_ (nI 48) d_Mo_unit_90 (by decide +kernel) ?_
        refine V.subN d_Mo_unit_92 (by omega) ?_
        refine V.top (y := nI (10 * x.1 + ((hr (fun j => D (228 + j)) sz x.2).toNatClampNeg - 48))) (by rw [ec, icl (by omega)]; congr 1; omega) ?_
        refine V.istore_n d_Mo_unit_93 (by decide) ?_
        refine V.aload_n d_Mo_unit_94 rfl ?_
        refine V.dup rfl d_Mo_unit_95 ?_
        refine V.get d_Mo_unit_96 f_Mo_66_Mo mo_o rfl ?_
        refine V.top (y := nI (x.2.1)) rfl ?_
        refine V.iconst_ (nI 1) d_Mo_unit_99 (by decide +kernel) ?_
        refine V.addN d_Mo_unit_100 ?_
        refine V.mput d_Mo_unit_101 f_Mo_66_Mo fp_Mo_6 rfl (by decide) ?_
        rw [pS_at hxf]
        refine V.incN d_Mo_unit_104 rfl (by decide) ?_
        refine V.goto (tgt := 58) d_Mo_unit_107 (by decide) ?_
        refine V.lc rfl (ih (10 * x.1 + ((hr (fun j => D (228 + j)) sz x.2).toNatClampNeg - 48), adv x.2) (j + 1) (by omega) (by show x.2.1 + 1 = s.1 + (j + 1); omega) hx e2 ?_)
        have e5 : dgt (fun j => D (228 + j)) sz (k + 1) x = dgt (fun j => D (228 + j)) sz k (10 * x.1 + ((hr (fun j => D (228 + j)) sz x.2).toNatClampNeg - 48), adv x.2) := if_pos c_78
        rw [e5] at hQ
        exact hQ
theorem d_Mo_unit_0 : decode prog_14_method_25_code 0 = .ok (.aload_n 0, 1) := by decide +kernel
theorem d_Mo_unit_1 : decode prog_14_method_25_code 1 = .ok (.invokevirtual 79, 3) := by decide +kernel
theorem d_Mo_unit_4 : decode prog_14_method_25_code 4 = .ok (.istore_n 1, 1) := by decide +kernel
theorem d_Mo_unit_5 : decode prog_14_method_25_code 5 = .ok (.iload_n 1, 1) := by decide +kernel
theorem d_Mo_unit_6 : decode prog_14_method_25_code 6 = .ok (.bipush 33, 2) := by decide +kernel
theorem d_Mo_unit_8 : decode prog_14_method_25_code 8 = .ok (.if_icmp .eq 9, 3) := by decide +kernel
theorem d_Mo_unit_17 : decode prog_14_method_25_code 17 = .ok (.aload_n 0, 1) := by decide +kernel
theorem d_Mo_unit_18 : decode prog_14_method_25_code 18 = .ok (.iload_n 1, 1) := by decide +kernel
theorem d_Mo_unit_19 : decode prog_14_method_25_code 19 = .ok (.invokevirtual 121, 3) := by decide +kernel
theorem kB_Mo_opens : kB M_Mo_opens 1 := ⟨tm 15 (by decide +kernel) rfl, tm 1191 (by decide +kernel) rfl, ⟨by decide, by decide, by decide +kernel⟩, by decide⟩
theorem k_Mo_121_Mo_opens_MoV : kV "FelledByNamesModel" 121 5 M_Mo_opens 1 := ⟨kB_Mo_opens, tm 1188 (by decide +kernel) rfl, tm 1190 (by decide +kernel) rfl, tp 22 (by decide +kernel) rfl, _, rfl, rfl⟩
theorem d_Mo_unit_22 : decode prog_14_method_25_code 22 = .ok (.return_, 1) := by decide +kernel
theorem d_Mo_unit_11 : decode prog_14_method_25_code 11 = .ok (.iload_n 1, 1) := by decide +kernel
theorem d_Mo_unit_12 : decode prog_14_method_25_code 12 = .ok (.bipush 40, 2) := by decide +kernel
theorem d_Mo_unit_14 : decode prog_14_method_25_code 14 = .ok (.if_icmp .ne 9, 3) := by decide +kernel
theorem d_Mo_unit_23 : decode prog_14_method_25_code 23 = .ok (.aload_n 0, 1) := by decide +kernel
theorem d_Mo_unit_24 : decode prog_14_method_25_code 24 = .ok (.iload_n 1, 1) := by decide +kernel
theorem d_Mo_unit_25 : decode prog_14_method_25_code 25 = .ok (.invokevirtual 124, 3) := by decide +kernel
theorem kB_Mo_nameOf : kB M_Mo_nameOf 1 := ⟨tm 15 (by decide +kernel) rfl, tm 1207 (by decide +kernel) rfl, ⟨by decide, by decide, by decide +kernel⟩, by decide⟩
theorem k_Mo_124_Mo_nameOf_MoV : kV "FelledByNamesModel" 124 5 M_Mo_nameOf 1 := ⟨kB_Mo_nameOf, tm 1204 (by decide +kernel) rfl, tm 1206 (by decide +kernel) rfl, tp 26 (by decide +kernel) rfl, _, rfl, rfl⟩
theorem d_Mo_unit_28 : decode prog_14_method_25_code 28 = .ok (.istore_n 2, 1) := by decide +kernel
theorem d_Mo_unit_29 : decode prog_14_method_25_code 29 = .ok (.iload_n 2, 1) := by decide +kernel
theorem d_Mo_unit_30 : decode prog_14_method_25_code 30 = .ok (.ifCond .lt 23, 3) := by decide +kernel
theorem d_Mo_unit_33 : decode prog_14_method_25_code 33 = .ok (.aload_n 0, 1) := by decide +kernel
theorem d_Mo_unit_34 : decode prog_14_method_25_code 34 = .ok (.dup, 1) := by decide +kernel
theorem d_Mo_unit_35 : decode prog_14_method_25_code 35 = .ok (.getfield 66, 3) := by decide +kernel
theorem d_Mo_unit_38 : decode prog_14_method_25_code 38 = .ok (.iconst 1, 1) := by decide +kernel
theorem d_Mo_unit_39 : decode prog_14_method_25_code 39 = .ok (.iadd, 1) := by decide +kernel
theorem d_Mo_unit_40 : decode prog_14_method_25_code 40 = .ok (.putfield 66, 3) := by decide +kernel
theorem d_Mo_unit_43 : decode prog_14_method_25_code 43 = .ok (.aload_n 0, 1) := by decide +kernel
theorem d_Mo_unit_44 : decode prog_14_method_25_code 44 = .ok (.sipush 10000, 3) := by decide +kernel
theorem d_Mo_unit_47 : decode prog_14_method_25_code 47 = .ok (.iload_n 2, 1) := by decide +kernel
theorem d_Mo_unit_48 : decode prog_14_method_25_code 48 = .ok (.iadd, 1) := by decide +kernel
theorem d_Mo_unit_49 : decode prog_14_method_25_code 49 = .ok (.invokevirtual 96, 3) := by decide +kernel
theorem d_Mo_unit_52 : decode prog_14_method_25_code 52 = .ok (.return_, 1) := by decide +kernel
theorem d_Mo_unit_53 : decode prog_14_method_25_code 53 = .ok (.iconst 0, 1) := by decide +kernel
theorem d_Mo_unit_54 : decode prog_14_method_25_code 54 = .ok (.istore_n 3, 1) := by decide +kernel
theorem d_Mo_unit_55 : decode prog_14_method_25_code 55 = .ok (.iconst 0, 1) := by decide +kernel
theorem d_Mo_unit_56 : decode prog_14_method_25_code 56 = .ok (.istore 4, 2) := by decide +kernel
theorem d_Mo_unit_110 : decode prog_14_method_25_code 110 = .ok (.iload 4, 2) := by decide +kernel
theorem d_Mo_unit_112 : decode prog_14_method_25_code 112 = .ok (.ifCond .ne 7, 3) := by decide +kernel
theorem d_Mo_unit_119 : decode prog_14_method_25_code 119 = .ok (.aload_n 0, 1) := by decide +kernel
theorem d_Mo_unit_120 : decode prog_14_method_25_code 120 = .ok (.iload_n 3, 1) := by decide +kernel
theorem d_Mo_unit_121 : decode prog_14_method_25_code 121 = .ok (.invokevirtual 96, 3) := by decide +kernel
theorem d_Mo_unit_124 : decode prog_14_method_25_code 124 = .ok (.return_, 1) := by decide +kernel
theorem d_Mo_unit_115 : decode prog_14_method_25_code 115 = .ok (.aload_n 0, 1) := by decide +kernel
theorem d_Mo_unit_116 : decode prog_14_method_25_code 116 = .ok (.invokevirtual 115, 3) := by decide +kernel
set_option maxRecDepth 100000 in
theorem c_Mo_unit {l : Launch} {q : Nat} {D : Nat → Int32} {A : Nat → Nat → Int32} {S : Nat → Int32} {h0 : HP} {sz op : Nat} {wd : Bool} {o : Option (PS → PS)} {y n : Nat} {Q : QT} {s : PS} (hz : sz ≤ 50) (h1 : s.1 ≤ sz) (h2 : s.2.2.length ≤ s.1) (ho : ∀ c, c = 33 ∨ c = 40 → hr (fun j => D (228 + j)) sz s = nI c → ∀ Q : QT, Q none n (mo q D (uA A 5 (wrt (A 5) 0 (opP (fun j => D (228 + j)) sz o s).2.2)) (pS S sz wd op (opP (fun j => D (228 + j)) sz o s)) h0) → Ct l M_Mo_opens (y + 1) 0 0 [.ref q, .int (nI c)] n (mo q D (uA A 5 (wrt (A 5) 0 (s).2.2)) (pS S sz wd op (s)) h0) Q) (hQ : Q none n (mo q D (uA A 5 (wrt (A 5) 0 (utP (fun j => D (228 + j)) sz wd o s).2.2)) (pS S sz wd op (utP (fun j => D (228 + j)) sz wd o s)) h0)) : Ct l M_Mo_unit (y + 2) 0 0 [.ref q] n (mo q D (uA A 5 (wrt (A 5) 0 (s).2.2)) (pS S sz wd op (s)) h0) Q := by
  refine Ct.of (fun _ => trivial) (by decide) (Nat.le_of_ble_eq_true rfl) ?_
  refine V.aload_n d_Mo_unit_0 rfl ?_
  refine V.callV0 d_Mo_unit_1 k_Mo_79_Mo_here_MoV mo_o (Nat.le_of_ble_eq_true rfl) (by omega) (by omega) (c_Mo_here hz h1 ?_)
  refine V.istore_n d_Mo_unit_4 (by decide) ?_
  refine V.iload_n d_Mo_unit_5 rfl ?_
  refine V.bipush_ (nI 33) d_Mo_unit_6 (by decide +kernel) ?_
  refine V.icmp_eq (tgt := 17) d_Mo_unit_8 (by decide) (fun c_8 => ?_) (fun c_8 => ?_)
  · skip
    refine V.aload_n d_Mo_unit_17 rfl ?_
    refine V.iload_n d_Mo_unit_18 rfl ?_
    refine V.top (y := nI 33) c_8 ?_
    refine V.callV1 d_Mo_unit_19 k_Mo_121_Mo_opens_MoV mo_o (Nat.le_of_ble_eq_true rfl) (by omega) (by omega) (ho 33 (by omega) c_8 _ ?_)
    refine V.vret d_Mo_unit_22 rfl (Nat.le_of_ble_eq_true rfl) (Nat.le_of_ble_eq_true rfl) ?_
    have e5 : utP (fun j => D (228 + j)) sz wd o s = opP (fun j => D (228 + j)) sz o s := if_pos (by first | exact Or.inl c_8 | exact Or.inr c_14)
    rw [e5] at hQ
    exact hQ
  · skip
    refine V.iload_n d_Mo_unit_11 rfl ?_
    refine V.bipush_ (nI 40) d_Mo_unit_12 (by decide +kernel) ?_
    refine V.icmp_ne (tgt := 23) d_Mo_unit_14 (by decide) (fun c_14 => ?_) (fun c_14 => ?_)
    · skip
      refine V.aload_n d_Mo_unit_23 rfl ?_
      refine V.iload_n d_Mo_unit_24 rfl ?_
      have hno : ¬ (hr (fun j => D (228 + j)) sz s = nI 33 ∨ hr (fun j => D (228 + j)) sz s = nI 40) := fun z => z.elim c_8 c_14
      refine V.callV1 d_Mo_unit_25 k_Mo_124_Mo_nameOf_MoV mo_o (Nat.le_of_ble_eq_true rfl) (by omega) (by omega) (c_Mo_nameOf (fun k hk => ?_) (fun hk => ?_))
      · skip
        obtain ⟨hk3, c, hc, ec⟩ := nmo_lt hk
        have hx := (hr_lt (by omega) ec).1
        have hxf := (hr_lt (by omega) ec).2
        have e5 : utP (fun j => D (228 + j)) sz wd o s = ly (10000 + k) (adv s) := by
          unfold utP
          rw [if_neg hno, hk]
        rw [e5] at hQ
        refine V.istore_n d_Mo_unit_28 (by decide) ?_
        refine V.iload_n d_Mo_unit_29 rfl ?_
        refine V.if_lt (tgt := 53) d_Mo_unit_30 (by decide) (fun c_30 => ?_) (fun c_30 => ?_)
        · skip
          exact absurd c_30 (Int32.not_lt.mpr ((nI_leI (a := 0) (by decide) (by omega)).mpr (Nat.zero_le _)))
        · skip
          refine V.aload_n d_Mo_unit_33 rfl ?_
          refine V.dup rfl d_Mo_unit_34 ?_
          refine V.get d_Mo_unit_35 f_Mo_66_Mo mo_o rfl ?_
          refine V.top (y := nI (s.1)) rfl ?_
          refine V.iconst_ (nI 1) d_Mo_unit_38 (by decide +kernel) ?_
          refine V.addN d_Mo_unit_39 ?_
          refine V.mput d_Mo_unit_40 f_Mo_66_Mo fp_Mo_6 rfl (by decide) ?_
          rw [pS_at hxf]
          refine V.aload_n d_Mo_unit_43 rfl ?_
          refine V.sipush_ (nI 10000) d_Mo_unit_44 (by decide +kernel) ?_
          refine V.iload_n d_Mo_unit_47 rfl ?_
          refine V.addN d_Mo_unit_48 ?_
          refine V.callV1 d_Mo_unit_49 k_Mo_96_Mo_lay_MoV mo_o (Nat.le_of_ble_eq_true rfl) (by omega) (by omega) (c_Mo_lay (s := adv s) hz hx (by show s.2.2.length ≤ 55; omega) ?_)
          refine V.vret d_Mo_unit_52 rfl (Nat.le_of_ble_eq_true rfl) (Nat.le_of_ble_eq_true rfl) ?_
          exact hQ
      · skip
        have e5 : utP (fun j => D (228 + j)) sz wd o s = nuP (fun j => D (228 + j)) sz s := by
          unfold utP
          rw [if_neg hno, hk]
        rw [e5] at hQ
        refine V.istore_n d_Mo_unit_28 (by decide) ?_
        refine V.iload_n d_Mo_unit_29 rfl ?_
        refine V.if_lt (tgt := 53) d_Mo_unit_30 (by decide) (fun c_30 => ?_) (fun c_30 => ?_)
        · skip
          refine V.iconst_ (nI 0) d_Mo_unit_53 (by decide +kernel) ?_
          refine V.istore_n d_Mo_unit_54 (by decide) ?_
          refine V.iconst_ (nI 0) d_Mo_unit_55 (by decide +kernel) ?_
          refine V.istore d_Mo_unit_56 (by decide) ?_
          obtain ⟨g1, g2, g3, g4⟩ := dgt_gp (f := (fun j => D (228 + j))) (sz := sz) 4 (0, s) h1
          have g1' : s.1 ≤ (dgt (fun j => D (228 + j)) sz 4 (0, s)).2.1 := g1
          have g4' : (dgt (fun j => D (228 + j)) sz 4 (0, s)).2.1 ≤ s.1 + 4 := g4
          have g3' : (dgt (fun j => D (228 + j)) sz 4 (0, s)).2.2 = s.2 := g3
          refine V.lc (ls' := [(0, .ref q), (3, .int (nI (0, s).1)), (4, .int (nI 0))]) rfl (unit_digits (s := s) hz 4 (0, s) 0 (by omega) rfl h1 rfl ?_)
          refine V.iload d_Mo_unit_110 rfl ?_
          refine V.if_ne (tgt := 119) d_Mo_unit_112 (by decide) (fun c_112 => ?_) (fun c_112 => ?_)
          · skip
            refine V.aload_n d_Mo_unit_119 rfl ?_
            refine V.iload_n d_Mo_unit_120 rfl ?_
            refine V.callV1 d_Mo_unit_121 k_Mo_96_Mo_lay_MoV mo_o (Nat.le_of_ble_eq_true rfl) (by omega) (by omega) (c_Mo_lay (s := (dgt (fun j => D (228 + j)) sz 4 (0, s)).2) hz g2 (by rw [g3']; omega) ?_)
            refine V.vret d_Mo_unit_124 rfl (Nat.le_of_ble_eq_true rfl) (Nat.le_of_ble_eq_true rfl) ?_
            rw [show nuP (fun j => D (228 + j)) sz s = ly (dgt (fun j => D (228 + j)) sz 4 (0, s)).1 (dgt (fun j => D (228 + j)) sz 4 (0, s)).2 from if_neg (fun z => c_112 (by rw [z, Nat.sub_self]; rfl))] at hQ
            exact hQ
          · skip
            refine V.aload_n d_Mo_unit_115 rfl ?_
            refine V.callV0 d_Mo_unit_116 k_Mo_115_Mo_wrong_MoV mo_o (Nat.le_of_ble_eq_true rfl) (by omega) (by omega) (c_Mo_wrong hz g2 ?_)
            have e6 : (dgt (fun j => D (228 + j)) sz 4 (0, s)).2.1 = s.1 := by
              have := (nI_eq (by omega) (by decide)).mp (show nI ((dgt (fun j => D (228 + j)) sz 4 (0, s)).2.1 - s.1) = nI 0 from c_112)
              omega
            have e7 : wg (dgt (fun j => D (228 + j)) sz 4 (0, s)).2 = wg s := by
              show ((dgt (fun j => D (228 + j)) sz 4 (0, s)).2.1, true, (dgt (fun j => D (228 + j)) sz 4 (0, s)).2.2.2) = _
              rw [e6, g3']
              rfl
            rw [e7]
            refine V.aload_n d_Mo_unit_119 rfl ?_
            refine V.iload_n d_Mo_unit_120 rfl ?_
            refine V.callV1 d_Mo_unit_121 k_Mo_96_Mo_lay_MoV mo_o (Nat.le_of_ble_eq_true rfl) (by omega) (by omega) (c_Mo_lay (s := wg s) hz h1 (by show s.2.2.length ≤ 55; omega) ?_)
            refine V.vret d_Mo_unit_124 rfl (Nat.le_of_ble_eq_true rfl) (Nat.le_of_ble_eq_true rfl) ?_
            rw [show nuP (fun j => D (228 + j)) sz s = wg s from if_pos e6] at hQ
            exact hQ
        · skip
          exact absurd (by decide +kernel) c_30
    · skip
      refine V.aload_n d_Mo_unit_17 rfl ?_
      refine V.iload_n d_Mo_unit_18 rfl ?_
      refine V.top (y := nI 40) c_14 ?_
      refine V.callV1 d_Mo_unit_19 k_Mo_121_Mo_opens_MoV mo_o (Nat.le_of_ble_eq_true rfl) (by omega) (by omega) (ho 40 (by omega) c_14 _ ?_)
      refine V.vret d_Mo_unit_22 rfl (Nat.le_of_ble_eq_true rfl) (Nat.le_of_ble_eq_true rfl) ?_
      have e5 : utP (fun j => D (228 + j)) sz wd o s = opP (fun j => D (228 + j)) sz o s := if_pos (by first | exact Or.inl c_8 | exact Or.inr c_14)
      rw [e5] at hQ
      exact hQ
theorem unit_none {l : Launch} {q : Nat} {D : Nat → Int32} {A : Nat → Nat → Int32} {S : Nat → Int32} {h0 : HP} {sz : Nat} {wd : Bool} {x : Nat} (hz : sz ≤ 50) (hx : 2 ≤ x) : ∀ (n : Nat) (Q : QT) (s : PS), s.1 ≤ sz → s.2.2.length ≤ s.1 → Q none n (mo q D (uA A 5 (wrt (A 5) 0 (((unP (fun j => D (228 + j)) sz wd 0)) s).2.2)) (pS S sz wd 5 (((unP (fun j => D (228 + j)) sz wd 0)) s)) h0) → Ct l M_Mo_unit x 0 0 [.ref q] n (mo q D (uA A 5 (wrt (A 5) 0 (s).2.2)) (pS S sz wd 5 (s)) h0) Q := by
  obtain ⟨y, rfl⟩ : ∃ y, x = y + 2 := ⟨x - 2, by omega⟩
  intro n Q s h1 h2 hQ
  exact c_Mo_unit (o := none) (y := y) hz h1 h2 (fun c _ _ Q hQ => c_Mo_opens5 hz h1 hQ) hQ
theorem unit_some {l : Launch} {q : Nat} {D : Nat → Int32} {A : Nat → Nat → Int32} {S : Nat → Int32} {h0 : HP} {sz op : Nat} {wd : Bool} {u : PS → PS} {dd : Nat} (hz : sz ≤ 50) (hop : op < 5) (gu : Gp sz u) (hd : 1 ≤ dd) (hu : ∀ x, dd ≤ x → (∀ (n : Nat) (Q : QT) (s : PS), s.1 ≤ sz → s.2.2.length ≤ s.1 → Q none n (mo q D (uA A 5 (wrt (A 5) 0 ((u) s).2.2)) (pS S sz wd (op + 1) ((u) s)) h0) → Ct l M_Mo_unit x 0 0 [.ref q] n (mo q D (uA A 5 (wrt (A 5) 0 (s).2.2)) (pS S sz wd (op + 1) (s)) h0) Q)) : ∀ x, dd + 7 ≤ x → ∀ (n : Nat) (Q : QT) (s : PS), s.1 ≤ sz → s.2.2.length ≤ s.1 → Q none n (mo q D (uA A 5 (wrt (A 5) 0 ((utP (fun j => D (228 + j)) sz wd (some u)) s).2.2)) (pS S sz wd op ((utP (fun j => D (228 + j)) sz wd (some u)) s)) h0) → Ct l M_Mo_unit x 0 0 [.ref q] n (mo q D (uA A 5 (wrt (A 5) 0 (s).2.2)) (pS S sz wd op (s)) h0) Q := by
  intro x hx
  obtain ⟨y, rfl⟩ : ∃ y, x = y + 8 := ⟨x - 8, by omega⟩
  obtain ⟨z, rfl⟩ : ∃ z, y = z := ⟨y, rfl⟩
  intro n Q s h1 h2 hQ
  have a1 := c_Mo_product (y := y) hz gu (hu (y + 1) (by omega))
  have a2 := c_Mo_sum (y := y + 1) hz (Gp.pr gu) a1
  have a3 := c_Mo_compared (y := y + 2) hz (Gp.sm gu) a2
  have a4 := c_Mo_both (y := y + 3) hz (Gp.cm gu) a3
  have a5 := c_Mo_either (y := y + 4) hz (Gp.bo gu) a4
  refine c_Mo_unit (o := some u) (y := y + 6) hz h1 h2 (fun c hc e Q hQ => ?_) hQ
  rcases hc with rfl | rfl
  · rw [show opP (fun j => D (228 + j)) sz (some u) s = ly 20033 (u (adv s)) from if_pos e] at hQ
    exact c_Mo_opens33 (y := y + 5) hz hop gu (hu (y + 6) (by omega)) h1 h2 e hQ
  · rw [show opP (fun j => D (228 + j)) sz (some u) s = clP (fun j => D (228 + j)) sz (eiP (fun j => D (228 + j)) sz u (adv s)) from if_neg (fun z => absurd (e.symm.trans z) (by decide +kernel))] at hQ
    exact c_Mo_opens40 (y := y + 5) hz hop (Gp.ei gu) a5 h1 h2 e hQ
theorem unit_5 {l : Launch} {q : Nat} {D : Nat → Int32} {A : Nat → Nat → Int32} {S : Nat → Int32} {h0 : HP} {sz : Nat} {wd : Bool} (hz : sz ≤ 50) : ∀ x, 37 ≤ x → ∀ (n : Nat) (Q : QT) (s : PS), s.1 ≤ sz → s.2.2.length ≤ s.1 → Q none n (mo q D (uA A 5 (wrt (A 5) 0 (((unP (fun j => D (228 + j)) sz wd 5)) s).2.2)) (pS S sz wd 0 (((unP (fun j => D (228 + j)) sz wd 5)) s)) h0) → Ct l M_Mo_unit x 0 0 [.ref q] n (mo q D (uA A 5 (wrt (A 5) 0 (s).2.2)) (pS S sz wd 0 (s)) h0) Q := by
  have b0 := fun x (hx : 2 ≤ x) => unit_none (l := l) (q := q) (D := D) (A := A) (S := S) (h0 := h0) (wd := wd) hz hx
  have b1 := unit_some (op := 4) hz (by decide) (Gp.un 0) (by decide) b0
  have b2 := unit_some (op := 3) (u := (unP (fun j => D (228 + j)) sz wd 1)) hz (by decide) (Gp.un 1) (by decide) b1
  have b3 := unit_some (op := 2) (u := (unP (fun j => D (228 + j)) sz wd 2)) hz (by decide) (Gp.un 2) (by decide) b2
  have b4 := unit_some (op := 1) (u := (unP (fun j => D (228 + j)) sz wd 3)) hz (by decide) (Gp.un 3) (by decide) b3
  exact unit_some (op := 0) (u := (unP (fun j => D (228 + j)) sz wd 4)) hz (by decide) (Gp.un 4) (by decide) b4
