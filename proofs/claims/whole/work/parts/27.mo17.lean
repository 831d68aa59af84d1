abbrev M_Mo_product : MD := (⟨"FelledByNamesModel", "product", "()V"⟩, prog_14_method_23_code, 2, none, fun _ => True)
abbrev M_Mo_unit : MD := (⟨"FelledByNamesModel", "unit", "()V"⟩, prog_14_method_25_code, 5, none, fun _ => True)
theorem d_Mo_product_4 : decode prog_14_method_23_code 4 = .ok (.aload_n 0, 1) := by decide +kernel
theorem d_Mo_product_5 : decode prog_14_method_23_code 5 = .ok (.invokevirtual 79, 3) := by decide +kernel
theorem d_Mo_product_8 : decode prog_14_method_23_code 8 = .ok (.bipush 42, 2) := by decide +kernel
theorem d_Mo_product_10 : decode prog_14_method_23_code 10 = .ok (.if_icmp .eq 21, 3) := by decide +kernel
theorem d_Mo_product_13 : decode prog_14_method_23_code 13 = .ok (.aload_n 0, 1) := by decide +kernel
theorem d_Mo_product_14 : decode prog_14_method_23_code 14 = .ok (.invokevirtual 79, 3) := by decide +kernel
theorem d_Mo_product_17 : decode prog_14_method_23_code 17 = .ok (.bipush 47, 2) := by decide +kernel
theorem d_Mo_product_19 : decode prog_14_method_23_code 19 = .ok (.if_icmp .eq 12, 3) := by decide +kernel
theorem d_Mo_product_22 : decode prog_14_method_23_code 22 = .ok (.aload_n 0, 1) := by decide +kernel
theorem d_Mo_product_23 : decode prog_14_method_23_code 23 = .ok (.invokevirtual 79, 3) := by decide +kernel
theorem d_Mo_product_26 : decode prog_14_method_23_code 26 = .ok (.bipush 37, 2) := by decide +kernel
theorem d_Mo_product_28 : decode prog_14_method_23_code 28 = .ok (.if_icmp .ne 34, 3) := by decide +kernel
theorem d_Mo_product_62 : decode prog_14_method_23_code 62 = .ok (.return_, 1) := by decide +kernel
theorem d_Mo_product_31 : decode prog_14_method_23_code 31 = .ok (.aload_n 0, 1) := by decide +kernel
theorem d_Mo_product_32 : decode prog_14_method_23_code 32 = .ok (.invokevirtual 79, 3) := by decide +kernel
theorem d_Mo_product_35 : decode prog_14_method_23_code 35 = .ok (.istore_n 1, 1) := by decide +kernel
theorem d_Mo_product_36 : decode prog_14_method_23_code 36 = .ok (.aload_n 0, 1) := by decide +kernel
theorem d_Mo_product_37 : decode prog_14_method_23_code 37 = .ok (.dup, 1) := by decide +kernel
theorem d_Mo_product_38 : decode prog_14_method_23_code 38 = .ok (.getfield 66, 3) := by decide +kernel
theorem d_Mo_product_41 : decode prog_14_method_23_code 41 = .ok (.iconst 1, 1) := by decide +kernel
theorem d_Mo_product_42 : decode prog_14_method_23_code 42 = .ok (.iadd, 1) := by decide +kernel
theorem d_Mo_product_43 : decode prog_14_method_23_code 43 = .ok (.putfield 66, 3) := by decide +kernel
theorem d_Mo_product_46 : decode prog_14_method_23_code 46 = .ok (.aload_n 0, 1) := by decide +kernel
theorem d_Mo_product_47 : decode prog_14_method_23_code 47 = .ok (.invokevirtual 109, 3) := by decide +kernel
theorem kB_Mo_unit : kB M_Mo_unit 0 := ⟨tm 15 (by decide +kernel) rfl, tm 1183 (by decide +kernel) rfl, ⟨by decide, by decide, by decide +kernel⟩, by decide⟩
theorem k_Mo_109_Mo_unit_MoV : kV "FelledByNamesModel" 109 5 M_Mo_unit 0 := ⟨kB_Mo_unit, tm 1180 (by decide +kernel) rfl, tm 1182 (by decide +kernel) rfl, tp 20 (by decide +kernel) rfl, _, rfl, rfl⟩
theorem d_Mo_product_50 : decode prog_14_method_23_code 50 = .ok (.aload_n 0, 1) := by decide +kernel
theorem d_Mo_product_51 : decode prog_14_method_23_code 51 = .ok (.sipush 20000, 3) := by decide +kernel
theorem d_Mo_product_54 : decode prog_14_method_23_code 54 = .ok (.iload_n 1, 1) := by decide +kernel
theorem d_Mo_product_55 : decode prog_14_method_23_code 55 = .ok (.iadd, 1) := by decide +kernel
theorem d_Mo_product_56 : decode prog_14_method_23_code 56 = .ok (.invokevirtual 96, 3) := by decide +kernel
theorem kB_Mo_lay : kB M_Mo_lay 1 := ⟨tm 15 (by decide +kernel) rfl, tm 1199 (by decide +kernel) rfl, ⟨by decide, by decide, by decide +kernel⟩, by decide⟩
theorem k_Mo_96_Mo_lay_MoV : kV "FelledByNamesModel" 96 5 M_Mo_lay 1 := ⟨kB_Mo_lay, tm 1196 (by decide +kernel) rfl, tm 1198 (by decide +kernel) rfl, tp 24 (by decide +kernel) rfl, _, rfl, rfl⟩
theorem d_Mo_product_59 : decode prog_14_method_23_code 59 = .ok (.goto (-55), 3) := by decide +kernel
set_option maxRecDepth 100000 in
theorem product_loop {l : Launch} {q : Nat} {D : Nat → Int32} {A : Nat → Nat → Int32} {S : Nat → Int32} {h0 : HP} {sz op : Nat} {wd : Bool} {u : PS → PS} {y n : Nat} {Q : QT} (hz : sz ≤ 50) (gu : Gp sz (u)) (hu : (∀ (n : Nat) (Q : QT) (s : PS), s.1 ≤ sz → s.2.2.length ≤ s.1 → Q none n (mo q D (uA A 5 (wrt (A 5) 0 ((u) s).2.2)) (pS S sz wd op ((u) s)) h0) → Ct l M_Mo_unit (y + 1) 0 0 [.ref q] n (mo q D (uA A 5 (wrt (A 5) 0 (s).2.2)) (pS S sz wd op (s)) h0) Q)) : ∀ (k : Nat) (s : PS), s.1 ≤ sz → s.2.2.length ≤ s.1 → sz - s.1 ≤ k → Q none n (mo q D (uA A 5 (wrt (A 5) 0 ((lp (fun j => D (228 + j)) sz sg4 (u) k s)).2.2)) (pS S sz wd op ((lp (fun j => D (228 + j)) sz sg4 (u) k s))) h0) → V l M_Mo_product (y + 2) 0 0 4 [(0, .ref q)] [] n (mo q D (uA A 5 (wrt (A 5) 0 (s).2.2)) (pS S sz wd op (s)) h0) 0 0 Q := by
  intro k
  induction k with
  | zero =>
    intro s h1 h2 h3 hQ
    refine V.aload_n d_Mo_product_4 rfl ?_
    refine V.callV0 d_Mo_product_5 k_Mo_79_Mo_here_MoV mo_o (Nat.le_of_ble_eq_true rfl) (by omega) (by omega) (c_Mo_here hz (by omega) ?_)
    refine V.bipush_ (nI 42) d_Mo_product_8 (by decide +kernel) ?_
    refine V.icmp_eq (tgt := 31) d_Mo_product_10 (by decide) (fun c_10 => ?_) (fun c_10 => ?_)
    · skip
      have hsg : sg4 (hr (fun j => D (228 + j)) sz s) = true := by
        unfold sg4
        first
        | exact decide_eq_true (Or.inl c_10)
        | exact decide_eq_true (Or.inr (Or.inl c_19))
        | exact decide_eq_true (Or.inr (Or.inr c_28))
      obtain ⟨c, hc, ec, -, -⟩ := sg_nat (by first | exact Or.inl rfl | exact Or.inr (Or.inl rfl) | exact Or.inr (Or.inr (Or.inl rfl)) | exact Or.inr (Or.inr (Or.inr (Or.inl rfl))) | exact Or.inr (Or.inr (Or.inr (Or.inr rfl)))) hsg
      have hx := (hr_lt (by omega) ec).1
      have hxf := (hr_lt (by omega) ec).2
      exact absurd hx (by omega)
    · skip
      refine V.aload_n d_Mo_product_13 rfl ?_
      refine V.callV0 d_Mo_product_14 k_Mo_79_Mo_here_MoV mo_o (Nat.le_of_ble_eq_true rfl) (by omega) (by omega) (c_Mo_here hz (by omega) ?_)
      refine V.bipush_ (nI 47) d_Mo_product_17 (by decide +kernel) ?_
      refine V.icmp_eq (tgt := 31) d_Mo_product_19 (by decide) (fun c_19 => ?_) (fun c_19 => ?_)
      · skip
        have hsg : sg4 (hr (fun j => D (228 + j)) sz s) = true := by
          unfold sg4
          first
          | exact decide_eq_true (Or.inl c_10)
          | exact decide_eq_true (Or.inr (Or.inl c_19))
          | exact decide_eq_true (Or.inr (Or.inr c_28))
        obtain ⟨c, hc, ec, -, -⟩ := sg_nat (by first | exact Or.inl rfl | exact Or.inr (Or.inl rfl) | exact Or.inr (Or.inr (Or.inl rfl)) | exact Or.inr (Or.inr (Or.inr (Or.inl rfl))) | exact Or.inr (Or.inr (Or.inr (Or.inr rfl)))) hsg
        have hx := (hr_lt (by omega) ec).1
        have hxf := (hr_lt (by omega) ec).2
        exact absurd hx (by omega)
      · skip
        refine V.aload_n d_Mo_product_22 rfl ?_
        refine V.callV0 d_Mo_product_23 k_Mo_79_Mo_here_MoV mo_o (Nat.le_of_ble_eq_true rfl) (by omega) (by omega) (c_Mo_here hz (by omega) ?_)
        refine V.bipush_ (nI 37) d_Mo_product_26 (by decide +kernel) ?_
        refine V.icmp_ne (tgt := 62) d_Mo_product_28 (by decide) (fun c_28 => ?_) (fun c_28 => ?_)
        · skip
          refine V.vret d_Mo_product_62 rfl (Nat.le_of_ble_eq_true rfl) (Nat.le_of_ble_eq_true rfl) ?_
          exact hQ
        · skip
          have hsg : sg4 (hr (fun j => D (228 + j)) sz s) = true := by
            unfold sg4
            first
            | exact decide_eq_true (Or.inl c_10)
            | exact decide_eq_true (Or.inr (Or.inl c_19))
            | exact decide_eq_true (Or.inr (Or.inr c_28))
          obtain ⟨c, hc, ec, -, -⟩ := sg_nat (by first | exact Or.inl rfl | exact Or.inr (Or.inl rfl) | exact Or.inr (Or.inr (Or.inl rfl)) | exact Or.inr (Or.inr (Or.inr (Or.inl rfl))) | exact Or.inr (Or.inr (Or.inr (Or.inr rfl)))) hsg
          have hx := (hr_lt (by omega) ec).1
          have hxf := (hr_lt (by omega) ec).2
          exact absurd hx (by omega)
  | succ k ih =>
    intro s h1 h2 h3 hQ
    refine V.aload_n d_Mo_product_4 rfl ?_
    refine V.callV0 d_Mo_product_5 k_Mo_79_Mo_here_MoV mo_o (Nat.le_of_ble_eq_true rfl) (by omega) (by omega) (c_Mo_here hz (by omega) ?_)
    refine V.bipush_ (nI 42) d_Mo_product_8 (by decide +kernel) ?_
    refine V.icmp_eq (tgt := 31) d_Mo_product_10 (by decide) (fun c_10 => ?_) (fun c_10 => ?_)
    · skip
      have hsg : sg4 (hr (fun j => D (228 + j)) sz s) = true := by
        unfold sg4
        first
        | exact decide_eq_true (Or.inl c_10)
        | exact decide_eq_true (Or.inr (Or.inl c_19))
        | exact decide_eq_true (Or.inr (Or.inr c_28))
      obtain ⟨c, hc, ec, -, -⟩ := sg_nat (by first | exact Or.inl rfl | exact Or.inr (Or.inl rfl) | exact Or.inr (Or.inr (Or.inl rfl)) | exact Or.inr (Or.inr (Or.inr (Or.inl rfl))) | exact Or.inr (Or.inr (Or.inr (Or.inr rfl)))) hsg
      have hx := (hr_lt (by omega) ec).1
      have hxf := (hr_lt (by omega) ec).2
      obtain ⟨g1, g2, g3⟩ := gu (adv s) hx
      have ga : (adv s).1 = s.1 + 1 := rfl
      have gb : (adv s).2.2 = s.2.2 := rfl
      rw [ga] at g1 g3
      rw [gb] at g3
      have hQ' := hQ
      rw [show lp (fun j => D (228 + j)) sz sg4 (u) (k + 1) s = lp (fun j => D (228 + j)) sz sg4 (u) k (ly (20000 + (hr (fun j => D (228 + j)) sz s).toNatClampNeg) ((u) (adv s))) from if_pos hsg] at hQ
      refine V.aload_n d_Mo_product_31 rfl ?_
      refine V.callV0 d_Mo_product_32 k_Mo_79_Mo_here_MoV mo_o (Nat.le_of_ble_eq_true rfl) (by omega) (by omega) (c_Mo_here hz (by omega) ?_)
      refine V.top (y := nI (hr (fun j => D (228 + j)) sz s).toNatClampNeg) (tn_nI (by omega) ec) ?_
      refine V.istore_n d_Mo_product_35 (by decide) ?_
      refine V.aload_n d_Mo_product_36 rfl ?_
      refine V.dup rfl d_Mo_product_37 ?_
      refine V.get d_Mo_product_38 f_Mo_66_Mo mo_o rfl ?_
      refine V.top (y := nI (s.1)) rfl ?_
      refine V.iconst_ (nI 1) d_Mo_product_41 (by decide +kernel) ?_
      refine V.addN d_Mo_product_42 ?_
      refine V.mput d_Mo_product_43 f_Mo_66_Mo fp_Mo_6 rfl (by decide) ?_
      rw [pS_at hxf]
      refine V.aload_n d_Mo_product_46 rfl ?_
      refine V.callV0 d_Mo_product_47 k_Mo_109_Mo_unit_MoV mo_o (Nat.le_of_ble_eq_true rfl) (by omega) (by omega) (hu _ _ (adv s) (by show s.1 + 1 ≤ sz; omega) (by show s.2.2.length ≤ s.1 + 1; omega) ?_)
      refine V.aload_n d_Mo_product_50 rfl ?_
      refine V.sipush_ (nI 20000) d_Mo_product_51 (by decide +kernel) ?_
      refine V.iload_n d_Mo_product_54 rfl ?_
      refine V.addN d_Mo_product_55 ?_
      refine V.callV1 d_Mo_product_56 k_Mo_96_Mo_lay_MoV mo_o (Nat.le_of_ble_eq_true rfl) (by omega) (by omega) (c_Mo_lay (s := (u) (adv s)) hz g2 (by omega) ?_)
      refine V.goto (tgt := 4) d_Mo_product_59 (by decide) ?_
      first
      | exact absurd hx (by omega)
      | (refine V.lc rfl (ih _ ?_ ?_ ?_ hQ)
         · rw [ly_1]; omega
         · have e9 := ly_len (w := 20000 + (hr (fun j => D (228 + j)) sz s).toNatClampNeg) (s := (u) (adv s)); rw [ly_1]; omega
         · rw [ly_1]; omega)
    · skip
      refine V.aload_n d_Mo_product_13 rfl ?_
      refine V.callV0 d_Mo_product_14 k_Mo_79_Mo_here_MoV mo_o (Nat.le_of_ble_eq_true rfl) (by omega) (by omega) (c_Mo_here hz (by omega) ?_)
      refine V.bipush_ (nI 47) d_Mo_product_17 (by decide +kernel) ?_
      refine V.icmp_eq (tgt := 31) d_Mo_product_19 (by decide) (fun c_19 => ?_) (fun c_19 => ?_)
      · skip
        have hsg : sg4 (hr (fun j => D (228 + j)) sz s) = true := by
          unfold sg4
          first
          | exact decide_eq_true (Or.inl c_10)
          | exact decide_eq_true (Or.inr (Or.inl c_19))
          | exact decide_eq_true (Or.inr (Or.inr c_28))
        obtain ⟨c, hc, ec, -, -⟩ := sg_nat (by first | exact Or.inl rfl | exact Or.inr (Or.inl rfl) | exact Or.inr (Or.inr (Or.inl rfl)) | exact Or.inr (Or.inr (Or.inr (Or.inl rfl))) | exact Or.inr (Or.inr (Or.inr (Or.inr rfl)))) hsg
        have hx := (hr_lt (by omega) ec).1
        have hxf := (hr_lt (by omega) ec).2
        obtain ⟨g1, g2, g3⟩ := gu (adv s) hx
        have ga : (adv s).1 = s.1 + 1 := rfl
        have gb : (adv s).2.2 = s.2.2 := rfl
        rw [ga] at g1 g3
        rw [gb] at g3
        have hQ' := hQ
        rw [show lp (fun j => D (228 + j)) sz sg4 (u) (k + 1) s = lp (fun j => D (228 + j)) sz sg4 (u) k (ly (20000 + (hr (fun j => D (228 + j)) sz s).toNatClampNeg) ((u) (adv s))) from if_pos hsg] at hQ
        refine V.aload_n d_Mo_product_31 rfl ?_
        refine V.callV0 d_Mo_product_32 k_Mo_79_Mo_here_MoV mo_o (Nat.le_of_ble_eq_true rfl) (by omega) (by omega) (c_Mo_here hz (by omega) ?_)
        refine V.top (y := nI (hr (fun j => D (228 + j)) sz s).toNatClampNeg) (tn_nI (by omega) ec) ?_
        refine V.istore_n d_Mo_product_35 (by decide) ?_
        refine V.aload_n d_Mo_product_36 rfl ?_
        refine V.dup rfl d_Mo_product_37 ?_
        refine V.get d_Mo_product_38 f_Mo_66_Mo mo_o rfl ?_
        refine V.top (y := nI (s.1)) rfl ?_
        refine V.iconst_ (nI 1) d_Mo_product_41 (by decide +kernel) ?_
        refine V.addN d_Mo_product_42 ?_
        refine V.mput d_Mo_product_43 f_Mo_66_Mo fp_Mo_6 rfl (by decide) ?_
        rw [pS_at hxf]
        refine V.aload_n d_Mo_product_46 rfl ?_
        refine V.callV0 d_Mo_product_47 k_Mo_109_Mo_unit_MoV mo_o (Nat.le_of_ble_eq_true rfl) (by omega) (by omega) (hu _ _ (adv s) (by show s.1 + 1 ≤ sz; omega) (by show s.2.2.length ≤ s.1 + 1; omega) ?_)
        refine V.aload_n d_Mo_product_50 rfl ?_
        refine V.sipush_ (nI 20000) d_Mo_product_51 (by decide +kernel) ?_
        refine V.iload_n d_Mo_product_54 rfl ?_
        refine V.addN d_Mo_product_55 ?_
        refine V.callV1 d_Mo_product_56 k_Mo_96_Mo_lay_MoV mo_o (Nat.le_of_ble_eq_true rfl) (by omega) (by omega) (c_Mo_lay (s := (u) (adv s)) hz g2 (by omega) ?_)
        refine V.goto (tgt := 4) d_Mo_product_59 (by decide) ?_
        first
        | exact absurd hx (by omega)
        | (refine V.lc rfl (ih _ ?_ ?_ ?_ hQ)
           · rw [ly_1]; omega
           · have e9 := ly_len (w := 20000 + (hr (fun j => D (228 + j)) sz s).toNatClampNeg) (s := (u) (adv s)); rw [ly_1]; omega
           · rw [ly_1]; omega)
      · skip
        refine V.aload_n d_Mo_product_22 rfl ?_
        refine V.callV0 d_Mo_product_23 k_Mo_79_Mo_here_MoV mo_o (Nat.le_of_ble_eq_true rfl) (by omega) (by omega) (c_Mo_here hz (by omega) ?_)
        refine V.bipush_ (nI 37) d_Mo_product_26 (by decide +kernel) ?_
        refine V.icmp_ne (tgt := 62) d_Mo_product_28 (by decide) (fun c_28 => ?_) (fun c_28 => ?_)
        · skip
          refine V.vret d_Mo_product_62 rfl (Nat.le_of_ble_eq_true rfl) (Nat.le_of_ble_eq_true rfl) ?_
          have hsg : ¬ sg4 (hr (fun j => D (228 + j)) sz s) = true := by
            unfold sg4
            rw [decide_eq_true_eq]
            first
            | exact of_decide_eq_false c_10
            | exact fun z => z.elim c_10 c_19
            | exact fun z => z.elim c_10 (fun z => z.elim c_19 c_28)
          rw [show lp (fun j => D (228 + j)) sz sg4 (u) (k + 1) s = s from if_neg hsg] at hQ
          exact hQ
        · skip
          have hsg : sg4 (hr (fun j => D (228 + j)) sz s) = true := by
            unfold sg4
            first
            | exact decide_eq_true (Or.inl c_10)
            | exact decide_eq_true (Or.inr (Or.inl c_19))
            | exact decide_eq_true (Or.inr (Or.inr c_28))
          obtain ⟨c, hc, ec, -, -⟩ := sg_nat (by first | exact Or.inl rfl | exact Or.inr (Or.inl rfl) | exact Or.inr (Or.inr (Or.inl rfl)) | exact Or.inr (Or.inr (Or.inr (Or.inl rfl))) | exact Or.inr (Or.inr (Or.inr (Or.inr rfl)))) hsg
          have hx := (hr_lt (by omega) ec).1
          have hxf := (hr_lt (by omega) ec).2
          obtain ⟨g1, g2, g3⟩ := gu (adv s) hx
          have ga : (adv s).1 = s.1 + 1 := rfl
          have gb : (adv s).2.2 = s.2.2 := rfl
          rw [ga] at g1 g3
          rw [gb] at g3
          have hQ' := hQ
          rw [show lp (fun j => D (228 + j)) sz sg4 (u) (k + 1) s = lp (fun j => D (228 + j)) sz sg4 (u) k (ly (20000 + (hr (fun j => D (228 + j)) sz s).toNatClampNeg) ((u) (adv s))) from if_pos hsg] at hQ
          refine V.aload_n d_Mo_product_31 rfl ?_
          refine V.callV0 d_Mo_product_32 k_Mo_79_Mo_here_MoV mo_o (Nat.le_of_ble_eq_true rfl) (by omega) (by omega) (c_Mo_here hz (by omega) ?_)
          refine V.top (y := nI (hr (fun j => D (228 + j)) sz s).toNatClampNeg) (tn_nI (by omega) ec) ?_
          refine V.istore_n d_Mo_product_35 (by decide) ?_
          refine V.aload_n d_Mo_product_36 rfl ?_
          refine V.dup rfl d_Mo_product_37 ?_
          refine V.get d_Mo_product_38 f_Mo_66_Mo mo_o rfl ?_
          refine V.top (y := nI (s.1)) rfl ?_
          refine V.iconst_ (nI 1) d_Mo_product_41 (by decide +kernel) ?_
          refine V.addN d_Mo_product_42 ?_
          refine V.mput d_Mo_product_43 f_Mo_66_Mo fp_Mo_6 rfl (by decide) ?_
          rw [pS_at hxf]
          refine V.aload_n d_Mo_product_46 rfl ?_
          refine V.callV0 d_Mo_product_47 k_Mo_109_Mo_unit_MoV mo_o (Nat.le_of_ble_eq_true rfl) (by omega) (by omega) (hu _ _ (adv s) (by show s.1 + 1 ≤ sz; omega) (by show s.2.2.length ≤ s.1 + 1; omega) ?_)
          refine V.aload_n d_Mo_product_50 rfl ?_
          refine V.sipush_ (nI 20000) d_Mo_product_51 (by decide +kernel) ?_
          refine V.iload_n d_Mo_product_54 rfl ?_
          refine V.addN d_Mo_product_55 ?_
          refine V.callV1 d_Mo_product_56 k_Mo_96_Mo_lay_MoV mo_o (Nat.le_of_ble_eq_true rfl) (by omega) (by omega) (c_Mo_lay (s := (u) (adv s)) hz g2 (by omega) ?_)
          refine V.goto (tgt := 4) d_Mo_product_59 (by decide) ?_
          first
          | exact absurd hx (by omega)
          | (refine V.lc rfl (ih _ ?_ ?_ ?_ hQ)
             · rw [ly_1]; omega
             · have e9 := ly_len (w := 20000 + (hr (fun j => D (228 + j)) sz s).toNatClampNeg) (s := (u) (adv s)); rw [ly_1]; omega
             · rw [ly_1]; omega)
theorem d_Mo_product_0 : decode prog_14_method_23_code 0 = .ok (.aload_n 0, 1) := by decide +kernel
theorem d_Mo_product_1 : decode prog_14_method_23_code 1 = .ok (.invokevirtual 109, 3) := by decide +kernel
set_option maxRecDepth 100000 in
theorem c_Mo_product {l : Launch} {q : Nat} {D : Nat → Int32} {A : Nat → Nat → Int32} {S : Nat → Int32} {h0 : HP} {sz op : Nat} {wd : Bool} {u : PS → PS} {y : Nat} (hz : sz ≤ 50) (gu : Gp sz (u)) (hu : (∀ (n : Nat) (Q : QT) (s : PS), s.1 ≤ sz → s.2.2.length ≤ s.1 → Q none n (mo q D (uA A 5 (wrt (A 5) 0 ((u) s).2.2)) (pS S sz wd op ((u) s)) h0) → Ct l M_Mo_unit (y + 1) 0 0 [.ref q] n (mo q D (uA A 5 (wrt (A 5) 0 (s).2.2)) (pS S sz wd op (s)) h0) Q)) : ∀ (n : Nat) (Q : QT) (s : PS), s.1 ≤ sz → s.2.2.length ≤ s.1 → Q none n (mo q D (uA A 5 (wrt (A 5) 0 ((prP (fun j => D (228 + j)) sz u) s).2.2)) (pS S sz wd op ((prP (fun j => D (228 + j)) sz u) s)) h0) → Ct l M_Mo_product (y + 2) 0 0 [.ref q] n (mo q D (uA A 5 (wrt (A 5) 0 (s).2.2)) (pS S sz wd op (s)) h0) Q := by
  intro n Q s h1 h2 hQ
  obtain ⟨g1, g2, g3⟩ := gu s h1
  refine Ct.of (fun _ => trivial) (by decide) (Nat.le_of_ble_eq_true rfl) ?_
  refine V.aload_n d_Mo_product_0 rfl ?_
  refine V.callV0 d_Mo_product_1 k_Mo_109_Mo_unit_MoV mo_o (Nat.le_of_ble_eq_true rfl) (by omega) (by omega) (hu _ _ s h1 h2 ?_)
  exact product_loop hz gu hu 50 _ g2 (by omega) (by omega) hQ
abbrev M_Mo_sum : MD := (⟨"FelledByNamesModel", "sum", "()V"⟩, prog_14_method_22_code, 2, none, fun _ => True)
theorem d_Mo_sum_4 : decode prog_14_method_22_code 4 = .ok (.aload_n 0, 1) := by decide +kernel
theorem d_Mo_sum_5 : decode prog_14_method_22_code 5 = .ok (.invokevirtual 79, 3) := by decide +kernel
theorem d_Mo_sum_8 : decode prog_14_method_22_code 8 = .ok (.bipush 43, 2) := by decide +kernel
theorem d_Mo_sum_10 : decode prog_14_method_22_code 10 = .ok (.if_icmp .eq 12, 3) := by decide +kernel
theorem d_Mo_sum_13 : decode prog_14_method_22_code 13 = .ok (.aload_n 0, 1) := by decide +kernel
theorem d_Mo_sum_14 : decode prog_14_method_22_code 14 = .ok (.invokevirtual 79, 3) := by decide +kernel
theorem d_Mo_sum_17 : decode prog_14_method_22_code 17 = .ok (.bipush 45, 2) := by decide +kernel
theorem d_Mo_sum_19 : decode prog_14_method_22_code 19 = .ok (.if_icmp .ne 34, 3) := by decide +kernel
theorem d_Mo_sum_53 : decode prog_14_method_22_code 53 = .ok (.return_, 1) := by decide +kernel
theorem d_Mo_sum_22 : decode prog_14_method_22_code 22 = .ok (.aload_n 0, 1) := by decide +kernel
theorem d_Mo_sum_23 : decode prog_14_method_22_code 23 = .ok (.invokevirtual 79, 3) := by decide +kernel
theorem d_Mo_sum_26 : decode prog_14_method_22_code 26 = .ok (.istore_n 1, 1) := by decide +kernel
theorem d_Mo_sum_27 : decode prog_14_method_22_code 27 = .ok (.aload_n 0, 1) := by decide +kernel
theorem d_Mo_sum_28 : decode prog_14_method_22_code 28 = .ok (.dup, 1) := by decide +kernel
theorem d_Mo_sum_29 : decode prog_14_method_22_code 29 = .ok (.getfield 66, 3) := by decide +kernel
theorem d_Mo_sum_32 : decode prog_14_method_22_code 32 = .ok (.iconst 1, 1) := by decide +kernel
theorem d_Mo_sum_33 : decode prog_14_method_22_code 33 = .ok (.iadd, 1) := by decide +kernel
theorem d_Mo_sum_34 : decode prog_14_method_22_code 34 = .ok (.putfield 66, 3) := by decide +kernel
theorem d_Mo_sum_37 : decode prog_14_method_22_code 37 = .ok (.aload_n 0, 1) := by decide +kernel
theorem d_Mo_sum_38 : decode prog_14_method_22_code 38 = .ok (.invokevirtual 106, 3) := by decide +kernel
theorem kB_Mo_product : kB M_Mo_product 0 := ⟨tm 15 (by decide +kernel) rfl, tm 1179 (by decide +kernel) rfl, ⟨by decide, by decide, by decide +kernel⟩, by decide⟩
theorem k_Mo_106_Mo_product_MoV : kV "FelledByNamesModel" 106 5 M_Mo_product 0 := ⟨kB_Mo_product, tm 1176 (by decide +kernel) rfl, tm 1178 (by decide +kernel) rfl, tp 19 (by decide +kernel) rfl, _, rfl, rfl⟩
theorem d_Mo_sum_41 : decode prog_14_method_22_code 41 = .ok (.aload_n 0, 1) := by decide +kernel
theorem d_Mo_sum_42 : decode prog_14_method_22_code 42 = .ok (.sipush 20000, 3) := by decide +kernel
theorem d_Mo_sum_45 : decode prog_14_method_22_code 45 = .ok (.iload_n 1, 1) := by decide +kernel
theorem d_Mo_sum_46 : decode prog_14_method_22_code 46 = .ok (.iadd, 1) := by decide +kernel
theorem d_Mo_sum_47 : decode prog_14_method_22_code 47 = .ok (.invokevirtual 96, 3) := by decide +kernel
theorem d_Mo_sum_50 : decode prog_14_method_22_code 50 = .ok (.goto (-46), 3) := by decide +kernel
set_option maxRecDepth 100000 in
theorem sum_loop {l : Launch} {q : Nat} {D : Nat → Int32} {A : Nat → Nat → Int32} {S : Nat → Int32} {h0 : HP} {sz op : Nat} {wd : Bool} {u : PS → PS} {y n : Nat} {Q : QT} (hz : sz ≤ 50) (gu : Gp sz (prP (fun j => D (228 + j)) sz u)) (hu : (∀ (n : Nat) (Q : QT) (s : PS), s.1 ≤ sz → s.2.2.length ≤ s.1 → Q none n (mo q D (uA A 5 (wrt (A 5) 0 ((prP (fun j => D (228 + j)) sz u) s).2.2)) (pS S sz wd op ((prP (fun j => D (228 + j)) sz u) s)) h0) → Ct l M_Mo_product (y + 1) 0 0 [.ref q] n (mo q D (uA A 5 (wrt (A 5) 0 (s).2.2)) (pS S sz wd op (s)) h0) Q)) : ∀ (k : Nat) (s : PS), s.1 ≤ sz → s.2.2.length ≤ s.1 → sz - s.1 ≤ k → Q none n (mo q D (uA A 5 (wrt (A 5) 0 ((lp (fun j => D (228 + j)) sz sg3 (prP (fun j => D (228 + j)) sz u) k s)).2.2)) (pS S sz wd op ((lp (fun j => D (228 + j)) sz sg3 (prP (fun j => D (228 + j)) sz u) k s))) h0) → V l M_Mo_sum (y + 2) 0 0 4 [(0, .ref q)] [] n (mo q D (uA A 5 (wrt (A 5) 0 (s).2.2)) (pS S sz wd op (s)) h0) 0 0 Q := by
  intro k
  induction k with
  | zero =>
    intro s h1 h2 h3 hQ
    refine V.aload_n d_Mo_sum_4 rfl ?_
    refine V.callV0 d_Mo_sum_5 k_Mo_79_Mo_here_MoV mo_o (Nat.le_of_ble_eq_true rfl) (by omega) (by omega) (c_Mo_here hz (by omega) ?_)
    refine V.bipush_ (nI 43) d_Mo_sum_8 (by decide +kernel) ?_
    refine V.icmp_eq (tgt := 22) d_Mo_sum_10 (by decide) (fun c_10 => ?_) (fun c_10 => ?_)
    · skip
      have hsg : sg3 (hr (fun j => D (228 + j)) sz s) = true := by
        unfold sg3
        first
        | exact decide_eq_true (Or.inl c_10)
        | exact decide_eq_true (Or.inr c_19)
      obtain ⟨c, hc, ec, -, -⟩ := sg_nat (by first | exact Or.inl rfl | exact Or.inr (Or.inl rfl) | exact Or.inr (Or.inr (Or.inl rfl)) | exact Or.inr (Or.inr (Or.inr (Or.inl rfl))) | exact Or.inr (Or.inr (Or.inr (Or.inr rfl)))) hsg
      have hx := (hr_lt (by omega) ec).1
      have hxf := (hr_lt (by omega) ec).2
      exact absurd hx (by omega)
    · skip
      refine V.aload_n d_Mo_sum_13 rfl ?_
      refine V.callV0 d_Mo_sum_14 k_Mo_79_Mo_here_MoV mo_o (Nat.le_of_ble_eq_true rfl) (by omega) (by omega) (c_Mo_here hz (by omega) ?_)
      refine V.bipush_ (nI 45) d_Mo_sum_17 (by decide +kernel) ?_
      refine V.icmp_ne (tgt := 53) d_Mo_sum_19 (by decide) (fun c_19 => ?_) (fun c_19 => ?_)
      · skip
        refine V.vret d_Mo_sum_53 rfl (Nat.le_of_ble_eq_true rfl) (Nat.le_of_ble_eq_true rfl) ?_
        exact hQ
      · skip
        have hsg : sg3 (hr (fun j => D (228 + j)) sz s) = true := by
          unfold sg3
          first
          | exact decide_eq_true (Or.inl c_10)
          | exact decide_eq_true (Or.inr c_19)
        obtain ⟨c, hc, ec, -, -⟩ := sg_nat (by first | exact Or.inl rfl | exact Or.inr (Or.inl rfl) | exact Or.inr (Or.inr (Or.inl rfl)) | exact Or.inr (Or.inr (Or.inr (Or.inl rfl))) | exact Or.inr (Or.inr (Or.inr (Or.inr rfl)))) hsg
        have hx := (hr_lt (by omega) ec).1
        have hxf := (hr_lt (by omega) ec).2
        exact absurd hx (by omega)
  | succ k ih =>
    intro s h1 h2 h3 hQ
    refine V.aload_n d_Mo_sum_4 rfl ?_
    refine V.callV0 d_Mo_sum_5 k_Mo_79_Mo_here_MoV mo_o (Nat.le_of_ble_eq_true rfl) (by omega) (by omega) (c_Mo_here hz (by omega) ?_)
    refine V.bipush_ (nI 43) d_Mo_sum_8 (by decide +kernel) ?_
    refine V.icmp_eq (tgt := 22) d_Mo_sum_10 (by decide) (fun c_10 => ?_) (fun c_10 => ?_)
    · skip
      have hsg : sg3 (hr (fun j => D (228 + j)) sz s) = true := by
        unfold sg3
        first
        | exact decide_eq_true (Or.inl c_10)
        | exact decide_eq_true (Or.inr c_19)
      obtain ⟨c, hc, ec, -, -⟩ := sg_nat (by first | exact Or.inl rfl | exact Or.inr (Or.inl rfl) | exact Or.inr (Or.inr (Or.inl rfl)) | exact Or.inr (Or.inr (Or.inr (Or.inl rfl))) | exact Or.inr (Or.inr (Or.inr (Or.inr rfl)))) hsg
      have hx := (hr_lt (by omega) ec).1
      have hxf := (hr_lt (by omega) ec).2
      obtain ⟨g1, g2, g3⟩ := gu (adv s) hx
      have ga : (adv s).1 = s.1 + 1 := rfl
      have gb : (adv s).2.2 = s.2.2 := rfl
      rw [ga] at g1 g3
      rw [gb] at g3
      have hQ' := hQ
      rw [show lp (fun j => D (228 + j)) sz sg3 (prP (fun j => D (228 + j)) sz u) (k + 1) s = lp (fun j => D (228 + j)) sz sg3 (prP (fun j => D (228 + j)) sz u) k (ly (20000 + (hr (fun j => D (228 + j)) sz s).toNatClampNeg) ((prP (fun j => D (228 + j)) sz u) (adv s))) from if_pos hsg] at hQ
      refine V.aload_n d_Mo_sum_22 rfl ?_
      refine V.callV0 d_Mo_sum_23 k_Mo_79_Mo_here_MoV mo_o (Nat.le_of_ble_eq_true rfl) (by omega) (by omega) (c_Mo_here hz (by omega) ?_)
      refine V.top (y := nI (hr (fun j => D (228 + j)) sz s).toNatClampNeg) (tn_nI (by omega) ec) ?_
      refine V.istore_n d_Mo_sum_26 (by decide) ?_
      refine V.aload_n d_Mo_sum_27 rfl ?_
      refine V.dup rfl d_Mo_sum_28 ?_
      refine V.get d_Mo_sum_29 f_Mo_66_Mo mo_o rfl ?_
      refine V.top (y := nI (s.1)) rfl ?_
      refine V.iconst_ (nI 1) d_Mo_sum_32 (by decide +kernel) ?_
      refine V.addN d_Mo_sum_33 ?_
      refine V.mput d_Mo_sum_34 f_Mo_66_Mo fp_Mo_6 rfl (by decide) ?_
      rw [pS_at hxf]
      refine V.aload_n d_Mo_sum_37 rfl ?_
      refine V.callV0 d_Mo_sum_38 k_Mo_106_Mo_product_MoV mo_o (Nat.le_of_ble_eq_true rfl) (by omega) (by omega) (hu _ _ (adv s) (by show s.1 + 1 ≤ sz; omega) (by show s.2.2.length ≤ s.1 + 1; omega) ?_)
      refine V.aload_n d_Mo_sum_41 rfl ?_
      refine V.sipush_ (nI 20000) d_Mo_sum_42 (by decide +kernel) ?_
      refine V.iload_n d_Mo_sum_45 rfl ?_
      refine V.addN d_Mo_sum_46 ?_
      refine V.callV1 d_Mo_sum_47 k_Mo_96_Mo_lay_MoV mo_o (Nat.le_of_ble_eq_true rfl) (by omega) (by omega) (c_Mo_lay (s := (prP (fun j => D (228 + j)) sz u) (adv s)) hz g2 (by omega) ?_)
      refine V.goto (tgt := 4) d_Mo_sum_50 (by decide) ?_
      first
      | exact absurd hx (by omega)
      | (refine V.lc rfl (ih _ ?_ ?_ ?_ hQ)
         · rw [ly_1]; omega
         · have e9 := ly_len (w := 20000 + (hr (fun j => D (228 + j)) sz s).toNatClampNeg) (s := (prP (fun j => D (228 + j)) sz u) (adv s)); rw [ly_1]; omega
         · rw [ly_1]; omega)
    · skip
      refine V.aload_n d_Mo_sum_13 rfl ?_
      refine V.callV0 d_Mo_sum_14 k_Mo_79_Mo_here_MoV mo_o (Nat.le_of_ble_eq_true rfl) (by omega) (by omega) (c_Mo_here hz (by omega) ?_)
      refine V.bipush_ (nI 45) d_Mo_sum_17 (by decide +kernel) ?_
      refine V.icmp_ne (tgt := 53) d_Mo_sum_19 (by decide) (fun c_19 => ?_) (fun c_19 => ?_)
      · skip
        refine V.vret d_Mo_sum_53 rfl (Nat.le_of_ble_eq_true rfl) (Nat.le_of_ble_eq_true rfl) ?_
        have hsg : ¬ sg3 (hr (fun j => D (228 + j)) sz s) = true := by
          unfold sg3
          rw [decide_eq_true_eq]
          first
          | exact of_decide_eq_false c_10
          | exact fun z => z.elim c_10 c_19
          | exact fun z => z.elim c_10 (fun z => z.elim c_19 c_28)
        rw [show lp (fun j => D (228 + j)) sz sg3 (prP (fun j => D (228 + j)) sz u) (k + 1) s = s from if_neg hsg] at hQ
        exact hQ
      · skip
        have hsg : sg3 (hr (fun j => D (228 + j)) sz s) = true := by
          unfold sg3
          first
          | exact decide_eq_true (Or.inl c_10)
          | exact decide_eq_true (Or.inr c_19)
        obtain ⟨c, hc, ec, -, -⟩ := sg_nat (by first | exact Or.inl rfl | exact Or.inr (Or.inl rfl) | exact Or.inr (Or.inr (Or.inl rfl)) | exact Or.inr (Or.inr (Or.inr (Or.inl rfl))) | exact Or.inr (Or.inr (Or.inr (Or.inr rfl)))) hsg
        have hx := (hr_lt (by omega) ec).1
        have hxf := (hr_lt (by omega) ec).2
        obtain ⟨g1, g2, g3⟩ := gu (adv s) hx
        have ga : (adv s).1 = s.1 + 1 := rfl
        have gb : (adv s).2.2 = s.2.2 := rfl
        rw [ga] at g1 g3
        rw [gb] at g3
        have hQ' := hQ
        rw [show lp (fun j => D (228 + j)) sz sg3 (prP (fun j => D (228 + j)) sz u) (k + 1) s = lp (fun j => D (228 + j)) sz sg3 (prP (fun j => D (228 + j)) sz u) k (ly (20000 + (hr (fun j => D (228 + j)) sz s).toNatClampNeg) ((prP (fun j => D (228 + j)) sz u) (adv s))) from if_pos hsg] at hQ
        refine V.aload_n d_Mo_sum_22 rfl ?_
        refine V.callV0 d_Mo_sum_23 k_Mo_79_Mo_here_MoV mo_o (Nat.le_of_ble_eq_true rfl) (by omega) (by omega) (c_Mo_here hz (by omega) ?_)
        refine V.top (y := nI (hr (fun j => D (228 + j)) sz s).toNatClampNeg) (tn_nI (by omega) ec) ?_
        refine V.istore_n d_Mo_sum_26 (by decide) ?_
        refine V.aload_n d_Mo_sum_27 rfl ?_
        refine V.dup rfl d_Mo_sum_28 ?_
        refine V.get d_Mo_sum_29 f_Mo_66_Mo mo_o rfl ?_
        refine V.top (y := nI (s.1)) rfl ?_
        refine V.iconst_ (nI 1) d_Mo_sum_32 (by decide +kernel) ?_
        refine V.addN d_Mo_sum_33 ?_
        refine V.mput d_Mo_sum_34 f_Mo_66_Mo fp_Mo_6 rfl (by decide) ?_
        rw [pS_at hxf]
        refine V.aload_n d_Mo_sum_37 rfl ?_
        refine V.callV0 d_Mo_sum_38 k_Mo_106_Mo_product_MoV mo_o (Nat.le_of_ble_eq_true rfl) (by omega) (by omega) (hu _ _ (adv s) (by show s.1 + 1 ≤ sz; omega) (by show s.2.2.length ≤ s.1 + 1; omega) ?_)
        refine V.aload_n d_Mo_sum_41 rfl ?_
        refine V.sipush_ (nI 20000) d_Mo_sum_42 (by decide +kernel) ?_
        refine V.iload_n d_Mo_sum_45 rfl ?_
        refine V.addN d_Mo_sum_46 ?_
        refine V.callV1 d_Mo_sum_47 k_Mo_96_Mo_lay_MoV mo_o (Nat.le_of_ble_eq_true rfl) (by omega) (by omega) (c_Mo_lay (s := (prP (fun j => D (228 + j)) sz u) (adv s)) hz g2 (by omega) ?_)
        refine V.goto (tgt := 4) d_Mo_sum_50 (by decide) ?_
        first
        | exact absurd hx (by omega)
        | (refine V.lc rfl (ih _ ?_ ?_ ?_ hQ)
           · rw [ly_1]; omega
           · have e9 := ly_len (w := 20000 + (hr (fun j => D (228 + j)) sz s).toNatClampNeg) (s := (prP (fun j => D (228 + j)) sz u) (adv s)); rw [ly_1]; omega
           · rw [ly_1]; omega)
theorem d_Mo_sum_0 : decode prog_14_method_22_code 0 = .ok (.aload_n 0, 1) := by decide +kernel
theorem d_Mo_sum_1 : decode prog_14_method_22_code 1 = .ok (.invokevirtual 106, 3) := by decide +kernel
set_option maxRecDepth 100000 in
theorem c_Mo_sum {l : Launch} {q : Nat} {D : Nat → Int32} {A : Nat → Nat → Int32} {S : Nat → Int32} {h0 : HP} {sz op : Nat} {wd : Bool} {u : PS → PS} {y : Nat} (hz : sz ≤ 50) (gu : Gp sz (prP (fun j => D (228 + j)) sz u)) (hu : (∀ (n : Nat) (Q : QT) (s : PS), s.1 ≤ sz → s.2.2.length ≤ s.1 → Q none n (mo q D (uA A 5 (wrt (A 5) 0 ((prP (fun j => D (228 + j)) sz u) s).2.2)) (pS S sz wd op ((prP (fun j => D (228 + j)) sz u) s)) h0) → Ct l M_Mo_product (y + 1) 0 0 [.ref q] n (mo q D (uA A 5 (wrt (A 5) 0 (s).2.2)) (pS S sz wd op (s)) h0) Q)) : ∀ (n : Nat) (Q : QT) (s : PS), s.1 ≤ sz → s.2.2.length ≤ s.1 → Q none n (mo q D (uA A 5 (wrt (A 5) 0 ((smP (fun j => D (228 + j)) sz u) s).2.2)) (pS S sz wd op ((smP (fun j => D (228 + j)) sz u) s)) h0) → Ct l M_Mo_sum (y + 2) 0 0 [.ref q] n (mo q D (uA A 5 (wrt (A 5) 0 (s).2.2)) (pS S sz wd op (s)) h0) Q := by
  intro n Q s h1 h2 hQ
  obtain ⟨g1, g2, g3⟩ := gu s h1
  refine Ct.of (fun _ => trivial) (by decide) (Nat.le_of_ble_eq_true rfl) ?_
  refine V.aload_n d_Mo_sum_0 rfl ?_
  refine V.callV0 d_Mo_sum_1 k_Mo_106_Mo_product_MoV mo_o (Nat.le_of_ble_eq_true rfl) (by omega) (by omega) (hu _ _ s h1 h2 ?_)
  exact sum_loop hz gu hu 50 _ g2 (by omega) (by omega) hQ
abbrev M_Mo_compared : MD := (⟨"FelledByNamesModel", "compared", "()V"⟩, prog_14_method_21_code, 2, none, fun _ => True)
theorem d_Mo_compared_0 : decode prog_14_method_21_code 0 = .ok (.aload_n 0, 1) := by decide +kernel
theorem d_Mo_compared_1 : decode prog_14_method_21_code 1 = .ok (.invokevirtual 103, 3) := by decide +kernel
theorem kB_Mo_sum : kB M_Mo_sum 0 := ⟨tm 15 (by decide +kernel) rfl, tm 1175 (by decide +kernel) rfl, ⟨by decide, by decide, by decide +kernel⟩, by decide⟩
theorem k_Mo_103_Mo_sum_MoV : kV "FelledByNamesModel" 103 5 M_Mo_sum 0 := ⟨kB_Mo_sum, tm 1172 (by decide +kernel) rfl, tm 1174 (by decide +kernel) rfl, tp 18 (by decide +kernel) rfl, _, rfl, rfl⟩
theorem d_Mo_compared_4 : decode prog_14_method_21_code 4 = .ok (.aload_n 0, 1) := by decide +kernel
theorem d_Mo_compared_5 : decode prog_14_method_21_code 5 = .ok (.invokevirtual 79, 3) := by decide +kernel
theorem d_Mo_compared_8 : decode prog_14_method_21_code 8 = .ok (.istore_n 1, 1) := by decide +kernel
theorem d_Mo_compared_9 : decode prog_14_method_21_code 9 = .ok (.iload_n 1, 1) := by decide +kernel
theorem d_Mo_compared_10 : decode prog_14_method_21_code 10 = .ok (.bipush 60, 2) := by decide +kernel
theorem d_Mo_compared_12 : decode prog_14_method_21_code 12 = .ok (.if_icmp .eq 15, 3) := by decide +kernel
theorem d_Mo_compared_27 : decode prog_14_method_21_code 27 = .ok (.aload_n 0, 1) := by decide +kernel
theorem d_Mo_compared_28 : decode prog_14_method_21_code 28 = .ok (.dup, 1) := by decide +kernel
theorem d_Mo_compared_29 : decode prog_14_method_21_code 29 = .ok (.getfield 66, 3) := by decide +kernel
theorem d_Mo_compared_32 : decode prog_14_method_21_code 32 = .ok (.iconst 1, 1) := by decide +kernel
theorem d_Mo_compared_33 : decode prog_14_method_21_code 33 = .ok (.iadd, 1) := by decide +kernel
theorem d_Mo_compared_34 : decode prog_14_method_21_code 34 = .ok (.putfield 66, 3) := by decide +kernel
theorem d_Mo_compared_37 : decode prog_14_method_21_code 37 = .ok (.aload_n 0, 1) := by decide +kernel
theorem d_Mo_compared_38 : decode prog_14_method_21_code 38 = .ok (.invokevirtual 103, 3) := by decide +kernel
theorem d_Mo_compared_41 : decode prog_14_method_21_code 41 = .ok (.aload_n 0, 1) := by decide +kernel
theorem d_Mo_compared_42 : decode prog_14_method_21_code 42 = .ok (.sipush 20000, 3) := by decide +kernel
theorem d_Mo_compared_45 : decode prog_14_method_21_code 45 = .ok (.iload_n 1, 1) := by decide +kernel
theorem d_Mo_compared_46 : decode prog_14_method_21_code 46 = .ok (.iadd, 1) := by decide +kernel
theorem d_Mo_compared_47 : decode prog_14_method_21_code 47 = .ok (.invokevirtual 96, 3) := by decide +kernel
theorem d_Mo_compared_50 : decode prog_14_method_21_code 50 = .ok (.return_, 1) := by decide +kernel
theorem d_Mo_compared_15 : decode prog_14_method_21_code 15 = .ok (.iload_n 1, 1) := by decide +kernel
theorem d_Mo_compared_16 : decode prog_14_method_21_code 16 = .ok (.bipush 61, 2) := by decide +kernel
theorem d_Mo_compared_18 : decode prog_14_method_21_code 18 = .ok (.if_icmp .eq 9, 3) := by decide +kernel
theorem d_Mo_compared_21 : decode prog_14_method_21_code 21 = .ok (.iload_n 1, 1) := by decide +kernel
theorem d_Mo_compared_22 : decode prog_14_method_21_code 22 = .ok (.bipush 62, 2) := by decide +kernel
theorem d_Mo_compared_24 : decode prog_14_method_21_code 24 = .ok (.if_icmp .ne 26, 3) := by decide +kernel
set_option maxRecDepth 100000 in
theorem c_Mo_compared {l : Launch} {q : Nat} {D : Nat → Int32} {A : Nat → Nat → Int32} {S : Nat → Int32} {h0 : HP} {sz op : Nat} {wd : Bool} {u : PS → PS} {y : Nat} (hz : sz ≤ 50) (gu : Gp sz (smP (fun j => D (228 + j)) sz u)) (hu : (∀ (n : Nat) (Q : QT) (s : PS), s.1 ≤ sz → s.2.2.length ≤ s.1 → Q none n (mo q D (uA A 5 (wrt (A 5) 0 ((smP (fun j => D (228 + j)) sz u) s).2.2)) (pS S sz wd op ((smP (fun j => D (228 + j)) sz u) s)) h0) → Ct l M_Mo_sum (y + 1) 0 0 [.ref q] n (mo q D (uA A 5 (wrt (A 5) 0 (s).2.2)) (pS S sz wd op (s)) h0) Q)) : ∀ (n : Nat) (Q : QT) (s : PS), s.1 ≤ sz → s.2.2.length ≤ s.1 → Q none n (mo q D (uA A 5 (wrt (A 5) 0 ((cmP (fun j => D (228 + j)) sz u) s).2.2)) (pS S sz wd op ((cmP (fun j => D (228 + j)) sz u) s)) h0) → Ct l M_Mo_compared (y + 2) 0 0 [.ref q] n (mo q D (uA A 5 (wrt (A 5) 0 (s).2.2)) (pS S sz wd op (s)) h0) Q := by
  intro n Q s h1 h2 hQ
  obtain ⟨g1, g2, g3⟩ := gu s h1
  refine Ct.of (fun _ => trivial) (by decide) (Nat.le_of_ble_eq_true rfl) ?_
  refine V.aload_n d_Mo_compared_0 rfl ?_
  refine V.callV0 d_Mo_compared_1 k_Mo_103_Mo_sum_MoV mo_o (Nat.le_of_ble_eq_true rfl) (by omega) (by omega) (hu _ _ s h1 h2 ?_)
  revert hQ
  show Q none n (mo q D (uA A 5 (wrt (A 5) 0 (lp (fun j => D (228 + j)) sz sg2 (smP (fun j => D (228 + j)) sz u) 1 (smP (fun j => D (228 + j)) sz u s)).2.2)) (pS S sz wd op (lp (fun j => D (228 + j)) sz sg2 (smP (fun j => D (228 + j)) sz u) 1 (smP (fun j => D (228 + j)) sz u s))) h0) → _
  generalize (smP (fun j => D (228 + j)) sz u s) = s1 at g1 g2 g3 ⊢
  intro hQ
  refine V.aload_n d_Mo_compared_4 rfl ?_
  refine V.callV0 d_Mo_compared_5 k_Mo_79_Mo_here_MoV mo_o (Nat.le_of_ble_eq_true rfl) (by omega) (by omega) (c_Mo_here hz g2 ?_)
  refine V.istore_n d_Mo_compared_8 (by decide) ?_
  refine V.iload_n d_Mo_compared_9 rfl ?_
  refine V.bipush_ (nI 60) d_Mo_compared_10 (by decide +kernel) ?_
  refine V.icmp_eq (tgt := 27) d_Mo_compared_12 (by decide) (fun c_12 => ?_) (fun c_12 => ?_)
  · skip
    have hsg : sg2 (hr (fun j => D (228 + j)) sz s1) = true := by
      unfold sg2
      first
      | exact decide_eq_true (Or.inl c_12)
      | exact decide_eq_true (Or.inr (Or.inl c_18))
      | exact decide_eq_true (Or.inr (Or.inr c_24))
    obtain ⟨c, hc, ec, -, -⟩ := sg_nat (Or.inr (Or.inr (Or.inl rfl))) hsg
    have hx := (hr_lt (by omega) ec).1
    have hxf := (hr_lt (by omega) ec).2
    obtain ⟨k1, k2, k3⟩ := gu (adv s1) hx
    have ga : (adv s1).1 = s1.1 + 1 := rfl
    have gb : (adv s1).2.2 = s1.2.2 := rfl
    rw [ga] at k1 k3
    rw [gb] at k3
    rw [show lp (fun j => D (228 + j)) sz sg2 (smP (fun j => D (228 + j)) sz u) 1 s1 = ly (20000 + (hr (fun j => D (228 + j)) sz s1).toNatClampNeg) (smP (fun j => D (228 + j)) sz u (adv s1)) from if_pos hsg] at hQ
    refine V.aload_n d_Mo_compared_27 rfl ?_
    refine V.dup rfl d_Mo_compared_28 ?_
    refine V.get d_Mo_compared_29 f_Mo_66_Mo mo_o rfl ?_
    refine V.top (y := nI (s1.1)) rfl ?_
    refine V.iconst_ (nI 1) d_Mo_compared_32 (by decide +kernel) ?_
    refine V.addN d_Mo_compared_33 ?_
    refine V.mput d_Mo_compared_34 f_Mo_66_Mo fp_Mo_6 rfl (by decide) ?_
    rw [pS_at hxf]
    refine V.aload_n d_Mo_compared_37 rfl ?_
    refine V.callV0 d_Mo_compared_38 k_Mo_103_Mo_sum_MoV mo_o (Nat.le_of_ble_eq_true rfl) (by omega) (by omega) (hu _ _ (adv s1) (by show s1.1 + 1 ≤ sz; omega) (by show s1.2.2.length ≤ s1.1 + 1; omega) ?_)
    refine V.aload_n d_Mo_compared_41 rfl ?_
    refine V.sipush_ (nI 20000) d_Mo_compared_42 (by decide +kernel) ?_
    refine V.iload_n d_Mo_compared_45 rfl ?_
    refine V.top (y := nI (hr (fun j => D (228 + j)) sz s1).toNatClampNeg) (tn_nI (by omega) ec) ?_
    refine V.addN d_Mo_compared_46 ?_
    refine V.callV1 d_Mo_compared_47 k_Mo_96_Mo_lay_MoV mo_o (Nat.le_of_ble_eq_true rfl) (by omega) (by omega) (c_Mo_lay (s := smP (fun j => D (228 + j)) sz u (adv s1)) hz k2 (by omega) ?_)
    refine V.vret d_Mo_compared_50 rfl (Nat.le_of_ble_eq_true rfl) (Nat.le_of_ble_eq_true rfl) ?_
    first
    | (have hsg : ¬ sg2 (hr (fun j => D (228 + j)) sz s1) = true := by
         unfold sg2
         rw [decide_eq_true_eq]
         exact fun z => z.elim c_12 (fun z => z.elim c_18 c_24)
       rw [show lp (fun j => D (228 + j)) sz sg2 (smP (fun j => D (228 + j)) sz u) 1 s1 = s1 from if_neg hsg] at hQ
       exact hQ)
    | exact hQ
  · skip
    refine V.iload_n d_Mo_compared_15 rfl ?_
    refine V.bipush_ (nI 61) d_Mo_compared_16 (by decide +kernel) ?_
    refine V.icmp_eq (tgt := 27) d_Mo_compared_18 (by decide) (fun c_18 => ?_) (fun c_18 => ?_)
    · skip
      have hsg : sg2 (hr (fun j => D (228 + j)) sz s1) = true := by
        unfold sg2
        first
        | exact decide_eq_true (Or.inl c_12)
        | exact decide_eq_true (Or.inr (Or.inl c_18))
        | exact decide_eq_true (Or.inr (Or.inr c_24))
      obtain ⟨c, hc, ec, -, -⟩ := sg_nat (Or.inr (Or.inr (Or.inl rfl))) hsg
      have hx := (hr_lt (by omega) ec).1
      have hxf := (hr_lt (by omega) ec).2
      obtain ⟨k1, k2, k3⟩ := gu (adv s1) hx
      have ga : (adv s1).1 = s1.1 + 1 := rfl
      have gb : (adv s1).2.2 = s1.2.2 := rfl
      rw [ga] at k1 k3
      rw [gb] at k3
      rw [show lp (fun j => D (228 + j)) sz sg2 (smP (fun j => D (228 + j)) sz u) 1 s1 = ly (20000 + (hr (fun j => D (228 + j)) sz s1).toNatClampNeg) (smP (fun j => D (228 + j)) sz u (adv s1)) from if_pos hsg] at hQ
      refine V.aload_n d_Mo_compared_27 rfl ?_
      refine V.dup rfl d_Mo_compared_28 ?_
      refine V.get d_Mo_compared_29 f_Mo_66_Mo mo_o rfl ?_
      refine V.top (y := nI (s1.1)) rfl ?_
      refine V.iconst_ (nI 1) d_Mo_compared_32 (by decide +kernel) ?_
      refine V.addN d_Mo_compared_33 ?_
      refine V.mput d_Mo_compared_34 f_Mo_66_Mo fp_Mo_6 rfl (by decide) ?_
      rw [pS_at hxf]
      refine V.aload_n d_Mo_compared_37 rfl ?_
      refine V.callV0 d_Mo_compared_38 k_Mo_103_Mo_sum_MoV mo_o (Nat.le_of_ble_eq_true rfl) (by omega) (by omega) (hu _ _ (adv s1) (by show s1.1 + 1 ≤ sz; omega) (by show s1.2.2.length ≤ s1.1 + 1; omega) ?_)
      refine V.aload_n d_Mo_compared_41 rfl ?_
      refine V.sipush_ (nI 20000) d_Mo_compared_42 (by decide +kernel) ?_
      refine V.iload_n d_Mo_compared_45 rfl ?_
      refine V.top (y := nI (hr (fun j => D (228 + j)) sz s1).toNatClampNeg) (tn_nI (by omega) ec) ?_
      refine V.addN d_Mo_compared_46 ?_
      refine V.callV1 d_Mo_compared_47 k_Mo_96_Mo_lay_MoV mo_o (Nat.le_of_ble_eq_true rfl) (by omega) (by omega) (c_Mo_lay (s := smP (fun j => D (228 + j)) sz u (adv s1)) hz k2 (by omega) ?_)
      refine V.vret d_Mo_compared_50 rfl (Nat.le_of_ble_eq_true rfl) (Nat.le_of_ble_eq_true rfl) ?_
      first
      | (have hsg : ¬ sg2 (hr (fun j => D (228 + j)) sz s1) = true := by
           unfold sg2
           rw [decide_eq_true_eq]
           exact fun z => z.elim c_12 (fun z => z.elim c_18 c_24)
         rw [show lp (fun j => D (228 + j)) sz sg2 (smP (fun j => D (228 + j)) sz u) 1 s1 = s1 from if_neg hsg] at hQ
         exact hQ)
      | exact hQ
    · skip
      refine V.iload_n d_Mo_compared_21 rfl ?_
      refine V.bipush_ (nI 62) d_Mo_compared_22 (by decide +kernel) ?_
      refine V.icmp_ne (tgt := 50) d_Mo_compared_24 (by decide) (fun c_24 => ?_) (fun c_24 => ?_)
      · skip
        refine V.vret d_Mo_compared_50 rfl (Nat.le_of_ble_eq_true rfl) (Nat.le_of_ble_eq_true rfl) ?_
        first
        | (have hsg : ¬ sg2 (hr (fun j => D (228 + j)) sz s1) = true := by
             unfold sg2
             rw [decide_eq_true_eq]
             exact fun z => z.elim c_12 (fun z => z.elim c_18 c_24)
           rw [show lp (fun j => D (228 + j)) sz sg2 (smP (fun j => D (228 + j)) sz u) 1 s1 = s1 from if_neg hsg] at hQ
           exact hQ)
        | exact hQ
      · skip
        have hsg : sg2 (hr (fun j => D (228 + j)) sz s1) = true := by
          unfold sg2
          first
          | exact decide_eq_true (Or.inl c_12)
          | exact decide_eq_true (Or.inr (Or.inl c_18))
          | exact decide_eq_true (Or.inr (Or.inr c_24))
        obtain ⟨c, hc, ec, -, -⟩ := sg_nat (Or.inr (Or.inr (Or.inl rfl))) hsg
        have hx := (hr_lt (by omega) ec).1
        have hxf := (hr_lt (by omega) ec).2
        obtain ⟨k1, k2, k3⟩ := gu (adv s1) hx
        have ga : (adv s1).1 = s1.1 + 1 := rfl
        have gb : (adv s1).2.2 = s1.2.2 := rfl
        rw [ga] at k1 k3
        rw [gb] at k3
        rw [show lp (fun j => D (228 + j)) sz sg2 (smP (fun j => D (228 + j)) sz u) 1 s1 = ly (20000 + (hr (fun j => D (228 + j)) sz s1).toNatClampNeg) (smP (fun j => D (228 + j)) sz u (adv s1)) from if_pos hsg] at hQ
        refine V.aload_n d_Mo_compared_27 rfl ?_
        refine V.dup rfl d_Mo_compared_28 ?_
        refine V.get d_Mo_compared_29 f_Mo_66_Mo mo_o rfl ?_
        refine V.top (y := nI (s1.1)) rfl ?_
        refine V.iconst_ (nI 1) d_Mo_compared_32 (by decide +kernel) ?_
        refine V.addN d_Mo_compared_33 ?_
        refine V.mput d_Mo_compared_34 f_Mo_66_Mo fp_Mo_6 rfl (by decide) ?_
        rw [pS_at hxf]
        refine V.aload_n d_Mo_compared_37 rfl ?_
        refine V.callV0 d_Mo_compared_38 k_Mo_103_Mo_sum_MoV mo_o (Nat.le_of_ble_eq_true rfl) (by omega) (by omega) (hu _ _ (adv s1) (by show s1.1 + 1 ≤ sz; omega) (by show s1.2.2.length ≤ s1.1 + 1; omega) ?_)
        refine V.aload_n d_Mo_compared_41 rfl ?_
        refine V.sipush_ (nI 20000) d_Mo_compared_42 (by decide +kernel) ?_
        refine V.iload_n d_Mo_compared_45 rfl ?_
        refine V.top (y := nI (hr (fun j => D (228 + j)) sz s1).toNatClampNeg) (tn_nI (by omega) ec) ?_
        refine V.addN d_Mo_compared_46 ?_
        refine V.callV1 d_Mo_compared_47 k_Mo_96_Mo_lay_MoV mo_o (Nat.le_of_ble_eq_true rfl) (by omega) (by omega) (c_Mo_lay (s := smP (fun j => D (228 + j)) sz u (adv s1)) hz k2 (by omega) ?_)
        refine V.vret d_Mo_compared_50 rfl (Nat.le_of_ble_eq_true rfl) (Nat.le_of_ble_eq_true rfl) ?_
        first
        | (have hsg : ¬ sg2 (hr (fun j => D (228 + j)) sz s1) = true := by
             unfold sg2
             rw [decide_eq_true_eq]
             exact fun z => z.elim c_12 (fun z => z.elim c_18 c_24)
           rw [show lp (fun j => D (228 + j)) sz sg2 (smP (fun j => D (228 + j)) sz u) 1 s1 = s1 from if_neg hsg] at hQ
           exact hQ)
        | exact hQ
abbrev M_Mo_both : MD := (⟨"FelledByNamesModel", "both", "()V"⟩, prog_14_method_20_code, 1, none, fun _ => True)
theorem d_Mo_both_4 : decode prog_14_method_20_code 4 = .ok (.aload_n 0, 1) := by decide +kernel
theorem d_Mo_both_5 : decode prog_14_method_20_code 5 = .ok (.bipush 38, 2) := by decide +kernel
theorem d_Mo_both_7 : decode prog_14_method_20_code 7 = .ok (.invokevirtual 93, 3) := by decide +kernel
theorem kB_Mo_takes : kB M_Mo_takes 1 := ⟨tm 15 (by decide +kernel) rfl, tm 1203 (by decide +kernel) rfl, ⟨by decide, by decide, by decide +kernel⟩, by decide⟩
theorem k_Mo_93_Mo_takes_MoV : kV "FelledByNamesModel" 93 5 M_Mo_takes 1 := ⟨kB_Mo_takes, tm 1200 (by decide +kernel) rfl, tm 1202 (by decide +kernel) rfl, tp 25 (by decide +kernel) rfl, _, rfl, rfl⟩
theorem d_Mo_both_10 : decode prog_14_method_20_code 10 = .ok (.ifCond .eq 17, 3) := by decide +kernel
theorem d_Mo_both_27 : decode prog_14_method_20_code 27 = .ok (.return_, 1) := by decide +kernel
theorem d_Mo_both_13 : decode prog_14_method_20_code 13 = .ok (.aload_n 0, 1) := by decide +kernel
theorem d_Mo_both_14 : decode prog_14_method_20_code 14 = .ok (.invokevirtual 100, 3) := by decide +kernel
theorem kB_Mo_compared : kB M_Mo_compared 0 := ⟨tm 15 (by decide +kernel) rfl, tm 1171 (by decide +kernel) rfl, ⟨by decide, by decide, by decide +kernel⟩, by decide⟩
theorem k_Mo_100_Mo_compared_MoV : kV "FelledByNamesModel" 100 5 M_Mo_compared 0 := ⟨kB_Mo_compared, tm 1168 (by decide +kernel) rfl, tm 1170 (by decide +kernel) rfl, tp 17 (by decide +kernel) rfl, _, rfl, rfl⟩
theorem d_Mo_both_17 : decode prog_14_method_20_code 17 = .ok (.aload_n 0, 1) := by decide +kernel
theorem d_Mo_both_18 : decode prog_14_method_20_code 18 = .ok (.sipush 20038, 3) := by decide +kernel
theorem d_Mo_both_21 : decode prog_14_method_20_code 21 = .ok (.invokevirtual 96, 3) := by decide +kernel
theorem d_Mo_both_24 : decode prog_14_method_20_code 24 = .ok (.goto (-20), 3) := by decide +kernel
set_option maxRecDepth 100000 in
theorem both_loop {l : Launch} {q : Nat} {D : Nat → Int32} {A : Nat → Nat → Int32} {S : Nat → Int32} {h0 : HP} {sz op : Nat} {wd : Bool} {u : PS → PS} {y n : Nat} {Q : QT} (hz : sz ≤ 50) (gu : Gp sz (cmP (fun j => D (228 + j)) sz u)) (hu : (∀ (n : Nat) (Q : QT) (s : PS), s.1 ≤ sz → s.2.2.length ≤ s.1 → Q none n (mo q D (uA A 5 (wrt (A 5) 0 ((cmP (fun j => D (228 + j)) sz u) s).2.2)) (pS S sz wd op ((cmP (fun j => D (228 + j)) sz u) s)) h0) → Ct l M_Mo_compared (y + 1) 0 0 [.ref q] n (mo q D (uA A 5 (wrt (A 5) 0 (s).2.2)) (pS S sz wd op (s)) h0) Q)) : ∀ (k : Nat) (s : PS), s.1 ≤ sz → s.2.2.length ≤ s.1 → sz - s.1 ≤ k → Q none n (mo q D (uA A 5 (wrt (A 5) 0 ((lp (fun j => D (228 + j)) sz sg1 (cmP (fun j => D (228 + j)) sz u) k s)).2.2)) (pS S sz wd op ((lp (fun j => D (228 + j)) sz sg1 (cmP (fun j => D (228 + j)) sz u) k s))) h0) → V l M_Mo_both (y + 2) 0 0 4 [(0, .ref q)] [] n (mo q D (uA A 5 (wrt (A 5) 0 (s).2.2)) (pS S sz wd op (s)) h0) 0 0 Q := by
  intro k
  induction k with
  | zero =>
    intro s h1 h2 h3 hQ
    refine V.aload_n d_Mo_both_4 rfl ?_
    refine V.bipush_ (nI 38) d_Mo_both_5 (by decide +kernel) ?_
    refine V.callV1 d_Mo_both_7 k_Mo_93_Mo_takes_MoV mo_o (Nat.le_of_ble_eq_true rfl) (by omega) (by omega) (c_Mo_tk (by decide) hz (by omega) ?_)
    refine V.ifeqB (tgt := 27) d_Mo_both_10 (by decide) (fun c_10 => ?_) (fun c_10 => ?_)
    · skip
      rw [show tkP (fun j => D (228 + j)) sz 38 s = s from if_neg (of_decide_eq_false c_10)]
      refine V.vret d_Mo_both_27 rfl (Nat.le_of_ble_eq_true rfl) (Nat.le_of_ble_eq_true rfl) ?_
      exact hQ
    · skip
      rw [show tkP (fun j => D (228 + j)) sz 38 s = adv s from if_pos (of_decide_eq_true c_10)]
      have hsg : sg1 (hr (fun j => D (228 + j)) sz s) = true := by
        unfold sg1
        first
        | exact decide_eq_true (of_decide_eq_true c_10)
      obtain ⟨c, hc, ec, -, -⟩ := sg_nat (by first | exact Or.inl rfl | exact Or.inr (Or.inl rfl) | exact Or.inr (Or.inr (Or.inl rfl)) | exact Or.inr (Or.inr (Or.inr (Or.inl rfl))) | exact Or.inr (Or.inr (Or.inr (Or.inr rfl)))) hsg
      have hx := (hr_lt (by omega) ec).1
      have hxf := (hr_lt (by omega) ec).2
      exact absurd hx (by omega)
  | succ k ih =>
    intro s h1 h2 h3 hQ
    refine V.aload_n d_Mo_both_4 rfl ?_
    refine V.bipush_ (nI 38) d_Mo_both_5 (by decide +kernel) ?_
    refine V.callV1 d_Mo_both_7 k_Mo_93_Mo_takes_MoV mo_o (Nat.le_of_ble_eq_true rfl) (by omega) (by omega) (c_Mo_tk (by decide) hz (by omega) ?_)
    refine V.ifeqB (tgt := 27) d_Mo_both_10 (by decide) (fun c_10 => ?_) (fun c_10 => ?_)
    · skip
      rw [show tkP (fun j => D (228 + j)) sz 38 s = s from if_neg (of_decide_eq_false c_10)]
      refine V.vret d_Mo_both_27 rfl (Nat.le_of_ble_eq_true rfl) (Nat.le_of_ble_eq_true rfl) ?_
      have hsg : ¬ sg1 (hr (fun j => D (228 + j)) sz s) = true := by
        unfold sg1
        rw [decide_eq_true_eq]
        first
        | exact of_decide_eq_false c_10
        | exact fun z => z.elim c_10 c_19
        | exact fun z => z.elim c_10 (fun z => z.elim c_19 c_28)
      rw [show lp (fun j => D (228 + j)) sz sg1 (cmP (fun j => D (228 + j)) sz u) (k + 1) s = s from if_neg hsg] at hQ
      exact hQ
    · skip
      rw [show tkP (fun j => D (228 + j)) sz 38 s = adv s from if_pos (of_decide_eq_true c_10)]
      have hsg : sg1 (hr (fun j => D (228 + j)) sz s) = true := by
        unfold sg1
        first
        | exact decide_eq_true (of_decide_eq_true c_10)
      obtain ⟨c, hc, ec, -, -⟩ := sg_nat (by first | exact Or.inl rfl | exact Or.inr (Or.inl rfl) | exact Or.inr (Or.inr (Or.inl rfl)) | exact Or.inr (Or.inr (Or.inr (Or.inl rfl))) | exact Or.inr (Or.inr (Or.inr (Or.inr rfl)))) hsg
      have hx := (hr_lt (by omega) ec).1
      have hxf := (hr_lt (by omega) ec).2
      obtain ⟨g1, g2, g3⟩ := gu (adv s) hx
      have ga : (adv s).1 = s.1 + 1 := rfl
      have gb : (adv s).2.2 = s.2.2 := rfl
      rw [ga] at g1 g3
      rw [gb] at g3
      have hQ' := hQ
      rw [show lp (fun j => D (228 + j)) sz sg1 (cmP (fun j => D (228 + j)) sz u) (k + 1) s = lp (fun j => D (228 + j)) sz sg1 (cmP (fun j => D (228 + j)) sz u) k (ly (20000 + (hr (fun j => D (228 + j)) sz s).toNatClampNeg) ((cmP (fun j => D (228 + j)) sz u) (adv s))) from if_pos hsg] at hQ
      refine V.aload_n d_Mo_both_13 rfl ?_
      refine V.callV0 d_Mo_both_14 k_Mo_100_Mo_compared_MoV mo_o (Nat.le_of_ble_eq_true rfl) (by omega) (by omega) (hu _ _ (adv s) (by show s.1 + 1 ≤ sz; omega) (by show s.2.2.length ≤ s.1 + 1; omega) ?_)
      refine V.aload_n d_Mo_both_17 rfl ?_
      refine V.sipush_ (nI 20038) d_Mo_both_18 (by decide +kernel) ?_
      refine V.top (y := nI (20000 + (hr (fun j => D (228 + j)) sz s).toNatClampNeg)) (by rw [of_decide_eq_true c_10, icl (by omega)]) ?_
      refine V.callV1 d_Mo_both_21 k_Mo_96_Mo_lay_MoV mo_o (Nat.le_of_ble_eq_true rfl) (by omega) (by omega) (c_Mo_lay (s := (cmP (fun j => D (228 + j)) sz u) (adv s)) hz g2 (by omega) ?_)
      refine V.goto (tgt := 4) d_Mo_both_24 (by decide) ?_
      first
      | exact absurd hx (by omega)
      | (refine V.lc rfl (ih _ ?_ ?_ ?_ hQ)
         · rw [ly_1]; omega
         · have e9 := ly_len (w := 20000 + (hr (fun j => D (228 + j)) sz s).toNatClampNeg) (s := (cmP (fun j => D (228 + j)) sz u) (adv s)); rw [ly_1]; omega
         · rw [ly_1]; omega)
theorem d_Mo_both_0 : decode prog_14_method_20_code 0 = .ok (.aload_n 0, 1) := by decide +kernel
theorem d_Mo_both_1 : decode prog_14_method_20_code 1 = .ok (.invokevirtual 100, 3) := by decide +kernel
set_option maxRecDepth 100000 in
theorem c_Mo_both {l : Launch} {q : Nat} {D : Nat → Int32} {A : Nat → Nat → Int32} {S : Nat → Int32} {h0 : HP} {sz op : Nat} {wd : Bool} {u : PS → PS} {y : Nat} (hz : sz ≤ 50) (gu : Gp sz (cmP (fun j => D (228 + j)) sz u)) (hu : (∀ (n : Nat) (Q : QT) (s : PS), s.1 ≤ sz → s.2.2.length ≤ s.1 → Q none n (mo q D (uA A 5 (wrt (A 5) 0 ((cmP (fun j => D (228 + j)) sz u) s).2.2)) (pS S sz wd op ((cmP (fun j => D (228 + j)) sz u) s)) h0) → Ct l M_Mo_compared (y + 1) 0 0 [.ref q] n (mo q D (uA A 5 (wrt (A 5) 0 (s).2.2)) (pS S sz wd op (s)) h0) Q)) : ∀ (n : Nat) (Q : QT) (s : PS), s.1 ≤ sz → s.2.2.length ≤ s.1 → Q none n (mo q D (uA A 5 (wrt (A 5) 0 ((boP (fun j => D (228 + j)) sz u) s).2.2)) (pS S sz wd op ((boP (fun j => D (228 + j)) sz u) s)) h0) → Ct l M_Mo_both (y + 2) 0 0 [.ref q] n (mo q D (uA A 5 (wrt (A 5) 0 (s).2.2)) (pS S sz wd op (s)) h0) Q := by
  intro n Q s h1 h2 hQ
  obtain ⟨g1, g2, g3⟩ := gu s h1
  refine Ct.of (fun _ => trivial) (by decide) (Nat.le_of_ble_eq_true rfl) ?_
  refine V.aload_n d_Mo_both_0 rfl ?_
  refine V.callV0 d_Mo_both_1 k_Mo_100_Mo_compared_MoV mo_o (Nat.le_of_ble_eq_true rfl) (by omega) (by omega) (hu _ _ s h1 h2 ?_)
  exact both_loop hz gu hu 50 _ g2 (by omega) (by omega) hQ
abbrev M_Mo_either : MD := (⟨"FelledByNamesModel", "either", "()V"⟩, prog_14_method_19_code, 1, none, fun _ => True)
theorem d_Mo_either_4 : decode prog_14_method_19_code 4 = .ok (.aload_n 0, 1) := by decide +kernel
theorem d_Mo_either_5 : decode prog_14_method_19_code 5 = .ok (.bipush 124, 2) := by decide +kernel
theorem d_Mo_either_7 : decode prog_14_method_19_code 7 = .ok (.invokevirtual 93, 3) := by decide +kernel
theorem d_Mo_either_10 : decode prog_14_method_19_code 10 = .ok (.ifCond .eq 17, 3) := by decide +kernel
theorem d_Mo_either_27 : decode prog_14_method_19_code 27 = .ok (.return_, 1) := by decide +kernel
theorem d_Mo_either_13 : decode prog_14_method_19_code 13 = .ok (.aload_n 0, 1) := by decide +kernel
theorem d_Mo_either_14 : decode prog_14_method_19_code 14 = .ok (.invokevirtual 90, 3) := by decide +kernel
theorem kB_Mo_both : kB M_Mo_both 0 := ⟨tm 15 (by decide +kernel) rfl, tm 1167 (by decide +kernel) rfl, ⟨by decide, by decide, by decide +kernel⟩, by decide⟩
theorem k_Mo_90_Mo_both_MoV : kV "FelledByNamesModel" 90 5 M_Mo_both 0 := ⟨kB_Mo_both, tm 1164 (by decide +kernel) rfl, tm 1166 (by decide +kernel) rfl, tp 16 (by decide +kernel) rfl, _, rfl, rfl⟩
theorem d_Mo_either_17 : decode prog_14_method_19_code 17 = .ok (.aload_n 0, 1) := by decide +kernel
theorem d_Mo_either_18 : decode prog_14_method_19_code 18 = .ok (.sipush 20124, 3) := by decide +kernel
theorem d_Mo_either_21 : decode prog_14_method_19_code 21 = .ok (.invokevirtual 96, 3) := by decide +kernel
theorem d_Mo_either_24 : decode prog_14_method_19_code 24 = .ok (.goto (-20), 3) := by decide +kernel
set_option maxRecDepth 100000 in
theorem either_loop {l : Launch} {q : Nat} {D : Nat → Int32} {A : Nat → Nat → Int32} {S : Nat → Int32} {h0 : HP} {sz op : Nat} {wd : Bool} {u : PS → PS} {y n : Nat} {Q : QT} (hz : sz ≤ 50) (gu : Gp sz (boP (fun j => D (228 + j)) sz u)) (hu : (∀ (n : Nat) (Q : QT) (s : PS), s.1 ≤ sz → s.2.2.length ≤ s.1 → Q none n (mo q D (uA A 5 (wrt (A 5) 0 ((boP (fun j => D (228 + j)) sz u) s).2.2)) (pS S sz wd op ((boP (fun j => D (228 + j)) sz u) s)) h0) → Ct l M_Mo_both (y + 1) 0 0 [.ref q] n (mo q D (uA A 5 (wrt (A 5) 0 (s).2.2)) (pS S sz wd op (s)) h0) Q)) : ∀ (k : Nat) (s : PS), s.1 ≤ sz → s.2.2.length ≤ s.1 → sz - s.1 ≤ k → Q none n (mo q D (uA A 5 (wrt (A 5) 0 ((lp (fun j => D (228 + j)) sz sg0 (boP (fun j => D (228 + j)) sz u) k s)).2.2)) (pS S sz wd op ((lp (fun j => D (228 + j)) sz sg0 (boP (fun j => D (228 + j)) sz u) k s))) h0) → V l M_Mo_either (y + 2) 0 0 4 [(0, .ref q)] [] n (mo q D (uA A 5 (wrt (A 5) 0 (s).2.2)) (pS S sz wd op (s)) h0) 0 0 Q := by
  intro k
  induction k with
  | zero =>
    intro s h1 h2 h3 hQ
    refine V.aload_n d_Mo_either_4 rfl ?_
    refine V.bipush_ (nI 124) d_Mo_either_5 (by decide +kernel) ?_
    refine V.callV1 d_Mo_either_7 k_Mo_93_Mo_takes_MoV mo_o (Nat.le_of_ble_eq_true rfl) (by omega) (by omega) (c_Mo_tk (by decide) hz (by omega) ?_)
    refine V.ifeqB (tgt := 27) d_Mo_either_10 (by decide) (fun c_10 => ?_) (fun c_10 => ?_)
    · skip
      rw [show tkP (fun j => D (228 + j)) sz 124 s = s from if_neg (of_decide_eq_false c_10)]
      refine V.vret d_Mo_either_27 rfl (Nat.le_of_ble_eq_true rfl) (Nat.le_of_ble_eq_true rfl) ?_
      exact hQ
    · skip
      rw [show tkP (fun j => D (228 + j)) sz 124 s = adv s from if_pos (of_decide_eq_true c_10)]
      have hsg : sg0 (hr (fun j => D (228 + j)) sz s) = true := by
        unfold sg0
        first
        | exact decide_eq_true (of_decide_eq_true c_10)
      obtain ⟨c, hc, ec, -, -⟩ := sg_nat (by first | exact Or.inl rfl | exact Or.inr (Or.inl rfl) | exact Or.inr (Or.inr (Or.inl rfl)) | exact Or.inr (Or.inr (Or.inr (Or.inl rfl))) | exact Or.inr (Or.inr (Or.inr (Or.inr rfl)))) hsg
      have hx := (hr_lt (by omega) ec).1
      have hxf := (hr_lt (by omega) ec).2
      exact absurd hx (by omega)
  | succ k ih =>
    intro s h1 h2 h3 hQ
    refine V.aload_n d_Mo_either_4 rfl ?_
    refine V.bipush_ (nI 124) d_Mo_either_5 (by decide +kernel) ?_
    refine V.callV1 d_Mo_either_7 k_Mo_93_Mo_takes_MoV mo_o (Nat.le_of_ble_eq_true rfl) (by omega) (by omega) (c_Mo_tk (by decide) hz (by omega) ?_)
    refine V.ifeqB (tgt := 27) d_Mo_either_10 (by decide) (fun c_10 => ?_) (fun c_10 => ?_)
    · skip
      rw [show tkP (fun j => D (228 + j)) sz 124 s = s from if_neg (of_decide_eq_false c_10)]
      refine V.vret d_Mo_either_27 rfl (Nat.le_of_ble_eq_true rfl) (Nat.le_of_ble_eq_true rfl) ?_
      have hsg : ¬ sg0 (hr (fun j => D (228 + j)) sz s) = true := by
        unfold sg0
        rw [decide_eq_true_eq]
        first
        | exact of_decide_eq_false c_10
        | exact fun z => z.elim c_10 c_19
        | exact fun z => z.elim c_10 (fun z => z.elim c_19 c_28)
      rw [show lp (fun j => D (228 + j)) sz sg0 (boP (fun j => D (228 + j)) sz u) (k + 1) s = s from if_neg hsg] at hQ
      exact hQ
    · skip
      rw [show tkP (fun j => D (228 + j)) sz 124 s = adv s from if_pos (of_decide_eq_true c_10)]
      have hsg : sg0 (hr (fun j => D (228 + j)) sz s) = true := by
        unfold sg0
        first
        | exact decide_eq_true (of_decide_eq_true c_10)
      obtain ⟨c, hc, ec, -, -⟩ := sg_nat (by first | exact Or.inl rfl | exact Or.inr (Or.inl rfl) | exact Or.inr (Or.inr (Or.inl rfl)) | exact Or.inr (Or.inr (Or.inr (Or.inl rfl))) | exact Or.inr (Or.inr (Or.inr (Or.inr rfl)))) hsg
      have hx := (hr_lt (by omega) ec).1
      have hxf := (hr_lt (by omega) ec).2
      obtain ⟨g1, g2, g3⟩ := gu (adv s) hx
      have ga : (adv s).1 = s.1 + 1 := rfl
      have gb : (adv s).2.2 = s.2.2 := rfl
      rw [ga] at g1 g3
      rw [gb] at g3
      have hQ' := hQ
      rw [show lp (fun j => D (228 + j)) sz sg0 (boP (fun j => D (228 + j)) sz u) (k + 1) s = lp (fun j => D (228 + j)) sz sg0 (boP (fun j => D (228 + j)) sz u) k (ly (20000 + (hr (fun j => D (228 + j)) sz s).toNatClampNeg) ((boP (fun j => D (228 + j)) sz u) (adv s))) from if_pos hsg] at hQ
      refine V.aload_n d_Mo_either_13 rfl ?_
      refine V.callV0 d_Mo_either_14 k_Mo_90_Mo_both_MoV mo_o (Nat.le_of_ble_eq_true rfl) (by omega) (by omega) (hu _ _ (adv s) (by show s.1 + 1 ≤ sz; omega) (by show s.2.2.length ≤ s.1 + 1; omega) ?_)
      refine V.aload_n d_Mo_either_17 rfl ?_
      refine V.sipush_ (nI 20124) d_Mo_either_18 (by decide +kernel) ?_
      refine V.top (y := nI (20000 + (hr (fun j => D (228 + j)) sz s).toNatClampNeg)) (by rw [of_decide_eq_true c_10, icl (by omega)]) ?_
      refine V.callV1 d_Mo_either_21 k_Mo_96_Mo_lay_MoV mo_o (Nat.le_of_ble_eq_true rfl) (by omega) (by omega) (c_Mo_lay (s := (boP (fun j => D (228 + j)) sz u) (adv s)) hz g2 (by omega) ?_)
      refine V.goto (tgt := 4) d_Mo_either_24 (by decide) ?_
      first
      | exact absurd hx (by omega)
      | (refine V.lc rfl (ih _ ?_ ?_ ?_ hQ)
         · rw [ly_1]; omega
         · have e9 := ly_len (w := 20000 + (hr (fun j => D (228 + j)) sz s).toNatClampNeg) (s := (boP (fun j => D (228 + j)) sz u) (adv s)); rw [ly_1]; omega
         · rw [ly_1]; omega)
theorem d_Mo_either_0 : decode prog_14_method_19_code 0 = .ok (.aload_n 0, 1) := by decide +kernel
theorem d_Mo_either_1 : decode prog_14_method_19_code 1 = .ok (.invokevirtual 90, 3) := by decide +kernel
set_option maxRecDepth 100000 in
theorem c_Mo_either {l : Launch} {q : Nat} {D : Nat → Int32} {A : Nat → Nat → Int32} {S : Nat → Int32} {h0 : HP} {sz op : Nat} {wd : Bool} {u : PS → PS} {y : Nat} (hz : sz ≤ 50) (gu : Gp sz (boP (fun j => D (228 + j)) sz u)) (hu : (∀ (n : Nat) (Q : QT) (s : PS), s.1 ≤ sz → s.2.2.length ≤ s.1 → Q none n (mo q D (uA A 5 (wrt (A 5) 0 ((boP (fun j => D (228 + j)) sz u) s).2.2)) (pS S sz wd op ((boP (fun j => D (228 + j)) sz u) s)) h0) → Ct l M_Mo_both (y + 1) 0 0 [.ref q] n (mo q D (uA A 5 (wrt (A 5) 0 (s).2.2)) (pS S sz wd op (s)) h0) Q)) : ∀ (n : Nat) (Q : QT) (s : PS), s.1 ≤ sz → s.2.2.length ≤ s.1 → Q none n (mo q D (uA A 5 (wrt (A 5) 0 ((eiP (fun j => D (228 + j)) sz u) s).2.2)) (pS S sz wd op ((eiP (fun j => D (228 + j)) sz u) s)) h0) → Ct l M_Mo_either (y + 2) 0 0 [.ref q] n (mo q D (uA A 5 (wrt (A 5) 0 (s).2.2)) (pS S sz wd op (s)) h0) Q := by
  intro n Q s h1 h2 hQ
  obtain ⟨g1, g2, g3⟩ := gu s h1
  refine Ct.of (fun _ => trivial) (by decide) (Nat.le_of_ble_eq_true rfl) ?_
  refine V.aload_n d_Mo_either_0 rfl ?_
  refine V.callV0 d_Mo_either_1 k_Mo_90_Mo_both_MoV mo_o (Nat.le_of_ble_eq_true rfl) (by omega) (by omega) (hu _ _ s h1 h2 ?_)
  exact either_loop hz gu hu 50 _ g2 (by omega) (by omega) hQ
