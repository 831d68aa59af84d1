/-- the reference's numbers while it reads -/
def pS (S : Nat → Int32) (sz : Nat) (wd : Bool) (op : Nat) (s : PS) : Nat → Int32 := fun j => if j = 5 then nI 228 else if j = 6 then nI s.1 else if j = 7 then nI sz else if j = 8 then (if s.2.1 = true then nI s.1 else -1) else if j = 9 then nI op else if j = 10 then bi wd else if j = 13 then nI s.2.2.length else S j
section PQ
variable {S : Nat → Int32} {sz op : Nat} {wd : Bool} {s : PS}
theorem pS_at (hf : s.2.1 = false) : uS (pS S sz wd op s) 6 (nI (s.1 + 1)) = pS S sz wd op (adv s) := by
  funext j
  unfold uS pS adv
  by_cases h6 : j = 6
  · subst h6; rfl
  · rw [if_neg h6]
    simp only [hf, if_neg h6, Bool.false_eq_true, if_false]
theorem pS_wg (hf : s.2.1 = false) : uS (pS S sz wd op s) 8 (nI s.1) = pS S sz wd op (wg s) := by
  funext j
  unfold uS pS wg
  by_cases h8 : j = 8
  · subst h8; rfl
  · rw [if_neg h8]
    simp only [if_neg h8]
theorem pS_op {k : Nat} : uS (pS S sz wd op s) 9 (nI k) = pS S sz wd k s := by
  funext j
  unfold uS pS
  by_cases h9 : j = 9
  · subst h9; rfl
  · rw [if_neg h9]
    simp only [if_neg h9]
theorem pS_8f (h : s.2.1 = false) : pS S sz wd op s 8 = -1 := by show (if s.2.1 = true then nI s.1 else -1) = -1; rw [if_neg (by rw [h]; decide)]
theorem pS_8t (h : s.2.1 = true) : pS S sz wd op s 8 = nI s.1 := by show (if s.2.1 = true then nI s.1 else -1) = _; rw [if_pos h]
theorem pS_8 (h1 : s.1 < 2 ^ 31) : 0 ≤ pS S sz wd op s 8 ↔ s.2.1 = true := by
  by_cases h : s.2.1 = true
  · rw [pS_8t h]; exact ⟨fun _ => h, fun _ => (nI_leI (a := 0) (by decide) h1).mpr (Nat.zero_le _)⟩
  · rw [pS_8f (by simpa using h)]; exact ⟨fun z => absurd z (by decide), fun z => absurd z h⟩
theorem pS_ly {w : Nat} (hf : s.2.1 = false) : uS (pS S sz wd op s) 13 (nI (s.2.2.length + 1)) = pS S sz wd op (ly w s) := by
  rw [show ly w s = (s.1, false, s.2.2 ++ [w]) from if_neg (by rw [hf]; decide)]
  funext j
  unfold uS pS
  by_cases h8 : j = 13
  · subst h8
    show nI (s.2.2.length + 1) = nI (s.2.2 ++ [w]).length
    rw [List.length_append]; rfl
  · rw [if_neg h8]
    simp only [if_neg h8, hf]
theorem wrt_ly {f : Nat → Int32} {w : Nat} (hf : s.2.1 = false) : upd (wrt f 0 s.2.2) s.2.2.length (nI w) = wrt f 0 (ly w s).2.2 := by
  unfold ly
  rw [if_neg (by rw [hf]; decide)]
  show _ = wrt f 0 (s.2.2 ++ [w])
  rw [wrt_cat, Nat.zero_add]
  rfl
theorem uS_id {k : Nat} {S : Nat → Int32} : uS S k (S k) = S := by
  funext j
  unfold uS
  by_cases h : j = k
  · rw [if_pos h, h]
  · rw [if_neg h]
end PQ
abbrev M_Mo_here : MD := (⟨"FelledByNamesModel", "here", "()I"⟩, prog_14_method_14_code, 1, (some .int), fun _ => True)
theorem d_Mo_here_0 : decode prog_14_method_14_code 0 = .ok (.aload_n 0, 1) := by decide +kernel
theorem d_Mo_here_1 : decode prog_14_method_14_code 1 = .ok (.getfield 66, 3) := by decide +kernel
theorem f_Mo_66_Mo : fok "FelledByNamesModel" 66 5 6 := ⟨R_Mo, F_Mo, 26, "FelledByNamesModel", rfl, i_Mo, by decide, tm 1065 (by decide +kernel) rfl, Or.inl rfl, t_Mo, t_Mo_ok, n_Mo⟩
theorem d_Mo_here_4 : decode prog_14_method_14_code 4 = .ok (.aload_n 0, 1) := by decide +kernel
theorem d_Mo_here_5 : decode prog_14_method_14_code 5 = .ok (.getfield 70, 3) := by decide +kernel
theorem f_Mo_70_Mo : fok "FelledByNamesModel" 70 5 7 := ⟨R_Mo, F_Mo, 26, "FelledByNamesModel", rfl, i_Mo, by decide, tm 1066 (by decide +kernel) rfl, Or.inl rfl, t_Mo, t_Mo_ok, n_Mo⟩
theorem d_Mo_here_8 : decode prog_14_method_14_code 8 = .ok (.if_icmp .ge 27, 3) := by decide +kernel
theorem d_Mo_here_35 : decode prog_14_method_14_code 35 = .ok (.iconst (-1), 1) := by decide +kernel
theorem d_Mo_here_36 : decode prog_14_method_14_code 36 = .ok (.ireturn, 1) := by decide +kernel
theorem d_Mo_here_11 : decode prog_14_method_14_code 11 = .ok (.aload_n 0, 1) := by decide +kernel
theorem d_Mo_here_12 : decode prog_14_method_14_code 12 = .ok (.getfield 73, 3) := by decide +kernel
theorem f_Mo_73_Mo : fok "FelledByNamesModel" 73 5 8 := ⟨R_Mo, F_Mo, 26, "FelledByNamesModel", rfl, i_Mo, by decide, tm 1067 (by decide +kernel) rfl, Or.inl rfl, t_Mo, t_Mo_ok, n_Mo⟩
theorem d_Mo_here_15 : decode prog_14_method_14_code 15 = .ok (.ifCond .ge 20, 3) := by decide +kernel
theorem d_Mo_here_18 : decode prog_14_method_14_code 18 = .ok (.aload_n 0, 1) := by decide +kernel
theorem d_Mo_here_19 : decode prog_14_method_14_code 19 = .ok (.getfield 7, 3) := by decide +kernel
theorem d_Mo_here_22 : decode prog_14_method_14_code 22 = .ok (.aload_n 0, 1) := by decide +kernel
theorem d_Mo_here_23 : decode prog_14_method_14_code 23 = .ok (.getfield 76, 3) := by decide +kernel
theorem f_Mo_76_Mo : fok "FelledByNamesModel" 76 5 5 := ⟨R_Mo, F_Mo, 26, "FelledByNamesModel", rfl, i_Mo, by decide, tm 1064 (by decide +kernel) rfl, Or.inl rfl, t_Mo, t_Mo_ok, n_Mo⟩
theorem d_Mo_here_26 : decode prog_14_method_14_code 26 = .ok (.aload_n 0, 1) := by decide +kernel
theorem d_Mo_here_27 : decode prog_14_method_14_code 27 = .ok (.getfield 66, 3) := by decide +kernel
theorem d_Mo_here_30 : decode prog_14_method_14_code 30 = .ok (.iadd, 1) := by decide +kernel
theorem d_Mo_here_31 : decode prog_14_method_14_code 31 = .ok (.iaload, 1) := by decide +kernel
theorem d_Mo_here_32 : decode prog_14_method_14_code 32 = .ok (.goto 4, 3) := by decide +kernel
set_option maxRecDepth 100000 in
theorem c_Mo_here {s : PS} {l : Launch} {q : Nat} {D : Nat → Int32} {A : Nat → Nat → Int32} {S : Nat → Int32} {h0 : HP} {sz op : Nat} {wd : Bool} {d n : Nat} {Q : QT} (hz : sz ≤ 50) (h1 : s.1 ≤ sz) (hQ : Q (some (.int (hr (fun j => D (228 + j)) sz s))) n (mo q D (uA A 5 (wrt (A 5) 0 (s).2.2)) (pS S sz wd op (s)) h0)) : Ct l M_Mo_here d 0 0 [.ref q] n (mo q D (uA A 5 (wrt (A 5) 0 (s).2.2)) (pS S sz wd op (s)) h0) Q := by
  refine Ct.of (fun _ => trivial) (by decide) (Nat.le_of_ble_eq_true rfl) ?_
  refine V.aload_n d_Mo_here_0 rfl ?_
  refine V.get d_Mo_here_1 f_Mo_66_Mo mo_o rfl ?_
  refine V.top (y := nI (s.1)) rfl ?_
  refine V.aload_n d_Mo_here_4 rfl ?_
  refine V.get d_Mo_here_5 f_Mo_70_Mo mo_o rfl ?_
  refine V.top (y := nI (sz)) rfl ?_
  refine V.geN (tgt := 35) d_Mo_here_8 (by decide) (by omega) (by omega) (fun c_8 => ?_) (fun c_8 => ?_)
  · skip
    refine V.iconst_ (-1) d_Mo_here_35 (by decide +kernel) ?_
    refine V.iret d_Mo_here_36 rfl (Nat.le_of_ble_eq_true rfl) (Nat.le_of_ble_eq_true rfl) ?_
    unfold hr at hQ
    first
    | (rw [if_pos ⟨c_8, Bool.eq_false_iff.mpr (fun z => c_15 ((pS_8 (by omega)).mpr z))⟩] at hQ; exact hQ)
    | (rw [if_neg (fun z => absurd z.1 (by omega))] at hQ; exact hQ)
    | (rw [if_neg (fun z => absurd ((pS_8 (by omega)).mp c_15) (by rw [z.2]; decide))] at hQ; exact hQ)
  · skip
    refine V.aload_n d_Mo_here_11 rfl ?_
    refine V.get d_Mo_here_12 f_Mo_73_Mo mo_o rfl ?_
    refine V.if_ge (tgt := 35) d_Mo_here_15 (by decide) (fun c_15 => ?_) (fun c_15 => ?_)
    · skip
      refine V.iconst_ (-1) d_Mo_here_35 (by decide +kernel) ?_
      refine V.iret d_Mo_here_36 rfl (Nat.le_of_ble_eq_true rfl) (Nat.le_of_ble_eq_true rfl) ?_
      unfold hr at hQ
      first
      | (rw [if_pos ⟨c_8, Bool.eq_false_iff.mpr (fun z => c_15 ((pS_8 (by omega)).mpr z))⟩] at hQ; exact hQ)
      | (rw [if_neg (fun z => absurd z.1 (by omega))] at hQ; exact hQ)
      | (rw [if_neg (fun z => absurd ((pS_8 (by omega)).mp c_15) (by rw [z.2]; decide))] at hQ; exact hQ)
    · skip
      refine V.aload_n d_Mo_here_18 rfl ?_
      refine V.get d_Mo_here_19 f_Mo_7_Mo mo_o rfl ?_
      refine V.aload_n d_Mo_here_22 rfl ?_
      refine V.get d_Mo_here_23 f_Mo_76_Mo mo_o rfl ?_
      refine V.top (y := nI (228)) rfl ?_
      refine V.aload_n d_Mo_here_26 rfl ?_
      refine V.get d_Mo_here_27 f_Mo_66_Mo mo_o rfl ?_
      refine V.top (y := nI (s.1)) rfl ?_
      refine V.addN d_Mo_here_30 ?_
      refine V.mldd d_Mo_here_31 (by omega) ?_
      refine V.goto (tgt := 36) d_Mo_here_32 (by decide) ?_
      refine V.iret d_Mo_here_36 rfl (Nat.le_of_ble_eq_true rfl) (Nat.le_of_ble_eq_true rfl) ?_
      unfold hr at hQ
      first
      | (rw [if_pos ⟨c_8, Bool.eq_false_iff.mpr (fun z => c_15 ((pS_8 (by omega)).mpr z))⟩] at hQ; exact hQ)
      | (rw [if_neg (fun z => absurd z.1 (by omega))] at hQ; exact hQ)
      | (rw [if_neg (fun z => absurd ((pS_8 (by omega)).mp c_15) (by rw [z.2]; decide))] at hQ; exact hQ)
abbrev M_Mo_wrong : MD := (⟨"FelledByNamesModel", "wrong", "()V"⟩, prog_14_method_15_code, 1, none, fun _ => True)
theorem d_Mo_wrong_0 : decode prog_14_method_15_code 0 = .ok (.aload_n 0, 1) := by decide +kernel
theorem d_Mo_wrong_1 : decode prog_14_method_15_code 1 = .ok (.aload_n 0, 1) := by decide +kernel
theorem d_Mo_wrong_2 : decode prog_14_method_15_code 2 = .ok (.getfield 73, 3) := by decide +kernel
theorem d_Mo_wrong_5 : decode prog_14_method_15_code 5 = .ok (.ifCond .ge 10, 3) := by decide +kernel
theorem d_Mo_wrong_15 : decode prog_14_method_15_code 15 = .ok (.aload_n 0, 1) := by decide +kernel
theorem d_Mo_wrong_16 : decode prog_14_method_15_code 16 = .ok (.getfield 73, 3) := by decide +kernel
theorem d_Mo_wrong_19 : decode prog_14_method_15_code 19 = .ok (.putfield 73, 3) := by decide +kernel
theorem fp_Mo_8 : fpk 5 8 (.int) := ⟨_, _, _, rfl, rfl, by decide +kernel⟩
theorem d_Mo_wrong_22 : decode prog_14_method_15_code 22 = .ok (.return_, 1) := by decide +kernel
theorem d_Mo_wrong_8 : decode prog_14_method_15_code 8 = .ok (.aload_n 0, 1) := by decide +kernel
theorem d_Mo_wrong_9 : decode prog_14_method_15_code 9 = .ok (.getfield 66, 3) := by decide +kernel
theorem d_Mo_wrong_12 : decode prog_14_method_15_code 12 = .ok (.goto 7, 3) := by decide +kernel
set_option maxRecDepth 100000 in
theorem c_Mo_wrong {s : PS} {l : Launch} {q : Nat} {D : Nat → Int32} {A : Nat → Nat → Int32} {S : Nat → Int32} {h0 : HP} {sz op : Nat} {wd : Bool} {d n : Nat} {Q : QT} (hz : sz ≤ 50) (h1 : s.1 ≤ sz) (hQ : Q none n (mo q D (uA A 5 (wrt (A 5) 0 (wg s).2.2)) (pS S sz wd op (wg s)) h0)) : Ct l M_Mo_wrong d 0 0 [.ref q] n (mo q D (uA A 5 (wrt (A 5) 0 (s).2.2)) (pS S sz wd op (s)) h0) Q := by
  refine Ct.of (fun _ => trivial) (by decide) (Nat.le_of_ble_eq_true rfl) ?_
  refine V.aload_n d_Mo_wrong_0 rfl ?_
  refine V.aload_n d_Mo_wrong_1 rfl ?_
  refine V.get d_Mo_wrong_2 f_Mo_73_Mo mo_o rfl ?_
  refine V.if_ge (tgt := 15) d_Mo_wrong_5 (by decide) (fun c_5 => ?_) (fun c_5 => ?_)
  · skip
    refine V.aload_n d_Mo_wrong_15 rfl ?_
    refine V.get d_Mo_wrong_16 f_Mo_73_Mo mo_o rfl ?_
    refine V.mput d_Mo_wrong_19 f_Mo_73_Mo fp_Mo_8 rfl (by decide) ?_
    first
    | rw [pS_wg (Bool.eq_false_iff.mpr (fun z => c_5 ((pS_8 (by omega)).mpr z)))]
    | (have hf : s.2.1 = true := (pS_8 (by omega)).mp c_5
       have e1 : wg s = s := by
         show (s.1, true, s.2.2) = s
         rw [← hf]
       rw [e1] at hQ
       rw [uS_id])
    refine V.vret d_Mo_wrong_22 rfl (Nat.le_of_ble_eq_true rfl) (Nat.le_of_ble_eq_true rfl) ?_
    exact hQ
  · skip
    refine V.aload_n d_Mo_wrong_8 rfl ?_
    refine V.get d_Mo_wrong_9 f_Mo_66_Mo mo_o rfl ?_
    refine V.top (y := nI (s.1)) rfl ?_
    refine V.goto (tgt := 19) d_Mo_wrong_12 (by decide) ?_
    refine V.mput d_Mo_wrong_19 f_Mo_73_Mo fp_Mo_8 rfl (by decide) ?_
    first
    | rw [pS_wg (Bool.eq_false_iff.mpr (fun z => c_5 ((pS_8 (by omega)).mpr z)))]
    | (have hf : s.2.1 = true := (pS_8 (by omega)).mp c_5
       have e1 : wg s = s := by
         show (s.1, true, s.2.2) = s
         rw [← hf]
       rw [e1] at hQ
       rw [uS_id])
    refine V.vret d_Mo_wrong_22 rfl (Nat.le_of_ble_eq_true rfl) (Nat.le_of_ble_eq_true rfl) ?_
    exact hQ
abbrev M_Mo_lay : MD := (⟨"FelledByNamesModel", "lay", "(I)V"⟩, prog_14_method_18_code, 2, none, fun _ => True)
theorem d_Mo_lay_0 : decode prog_14_method_18_code 0 = .ok (.aload_n 0, 1) := by decide +kernel
theorem d_Mo_lay_1 : decode prog_14_method_18_code 1 = .ok (.getfield 73, 3) := by decide +kernel
theorem d_Mo_lay_4 : decode prog_14_method_18_code 4 = .ok (.ifCond .ge 23, 3) := by decide +kernel
theorem d_Mo_lay_27 : decode prog_14_method_18_code 27 = .ok (.return_, 1) := by decide +kernel
theorem d_Mo_lay_7 : decode prog_14_method_18_code 7 = .ok (.aload_n 0, 1) := by decide +kernel
theorem d_Mo_lay_8 : decode prog_14_method_18_code 8 = .ok (.getfield 25, 3) := by decide +kernel
theorem f_Mo_25_Mo : fok "FelledByNamesModel" 25 5 12 := ⟨R_Mo, F_Mo, 26, "FelledByNamesModel", rfl, i_Mo, by decide, tm 1071 (by decide +kernel) rfl, Or.inl rfl, t_Mo, t_Mo_ok, n_Mo⟩
theorem d_Mo_lay_11 : decode prog_14_method_18_code 11 = .ok (.aload_n 0, 1) := by decide +kernel
theorem d_Mo_lay_12 : decode prog_14_method_18_code 12 = .ok (.getfield 87, 3) := by decide +kernel
theorem f_Mo_87_Mo : fok "FelledByNamesModel" 87 5 13 := ⟨R_Mo, F_Mo, 26, "FelledByNamesModel", rfl, i_Mo, by decide, tm 1072 (by decide +kernel) rfl, Or.inl rfl, t_Mo, t_Mo_ok, n_Mo⟩
theorem d_Mo_lay_15 : decode prog_14_method_18_code 15 = .ok (.iload_n 1, 1) := by decide +kernel
theorem d_Mo_lay_16 : decode prog_14_method_18_code 16 = .ok (.iastore, 1) := by decide +kernel
theorem d_Mo_lay_17 : decode prog_14_method_18_code 17 = .ok (.aload_n 0, 1) := by decide +kernel
theorem d_Mo_lay_18 : decode prog_14_method_18_code 18 = .ok (.dup, 1) := by decide +kernel
theorem d_Mo_lay_19 : decode prog_14_method_18_code 19 = .ok (.getfield 87, 3) := by decide +kernel
theorem d_Mo_lay_22 : decode prog_14_method_18_code 22 = .ok (.iconst 1, 1) := by decide +kernel
theorem d_Mo_lay_23 : decode prog_14_method_18_code 23 = .ok (.iadd, 1) := by decide +kernel
theorem d_Mo_lay_24 : decode prog_14_method_18_code 24 = .ok (.putfield 87, 3) := by decide +kernel
theorem fp_Mo_13 : fpk 5 13 (.int) := ⟨_, _, _, rfl, rfl, by decide +kernel⟩
set_option maxRecDepth 100000 in
theorem c_Mo_lay {s : PS} {w : Nat} {l : Launch} {q : Nat} {D : Nat → Int32} {A : Nat → Nat → Int32} {S : Nat → Int32} {h0 : HP} {sz op : Nat} {wd : Bool} {d n : Nat} {Q : QT} (hz : sz ≤ 50) (h1 : s.1 ≤ sz) (h2 : s.2.2.length ≤ 55) (hQ : Q none n (mo q D (uA A 5 (wrt (A 5) 0 (ly w s).2.2)) (pS S sz wd op (ly w s)) h0)) : Ct l M_Mo_lay d 0 0 [.ref q, .int (nI w)] n (mo q D (uA A 5 (wrt (A 5) 0 (s).2.2)) (pS S sz wd op (s)) h0) Q := by
  refine Ct.of (fun _ => trivial) (by decide) (Nat.le_of_ble_eq_true rfl) ?_
  refine V.aload_n d_Mo_lay_0 rfl ?_
  refine V.get d_Mo_lay_1 f_Mo_73_Mo mo_o rfl ?_
  refine V.if_ge (tgt := 27) d_Mo_lay_4 (by decide) (fun c_4 => ?_) (fun c_4 => ?_)
  · skip
    refine V.vret d_Mo_lay_27 rfl (Nat.le_of_ble_eq_true rfl) (Nat.le_of_ble_eq_true rfl) ?_
    first
    | (have hf : s.2.1 = false := Bool.eq_false_iff.mpr (fun z => c_4 ((pS_8 (by omega)).mpr z))
       rw [uA_uu, uA_s, wrt_ly hf, pS_ly (w := w) hf]
       exact hQ)
    | (have hf : s.2.1 = true := (pS_8 (by omega)).mp c_4
       have e1 : ly w s = s := if_pos hf
       rw [e1] at hQ
       exact hQ)
  · skip
    refine V.aload_n d_Mo_lay_7 rfl ?_
    refine V.get d_Mo_lay_8 f_Mo_25_Mo mo_o rfl ?_
    refine V.aload_n d_Mo_lay_11 rfl ?_
    refine V.get d_Mo_lay_12 f_Mo_87_Mo mo_o rfl ?_
    refine V.top (y := nI (s.2.2.length)) rfl ?_
    refine V.iload_n d_Mo_lay_15 rfl ?_
    refine V.msta 5 (by decide) (by decide) d_Mo_lay_16 (by first | omega | (show _ < 60; omega)) ?_
    refine V.aload_n d_Mo_lay_17 rfl ?_
    refine V.dup rfl d_Mo_lay_18 ?_
    refine V.get d_Mo_lay_19 f_Mo_87_Mo mo_o rfl ?_
    refine V.top (y := nI (s.2.2.length)) rfl ?_
    refine V.iconst_ (nI 1) d_Mo_lay_22 (by decide +kernel) ?_
    refine V.addN d_Mo_lay_23 ?_
    refine V.mput d_Mo_lay_24 f_Mo_87_Mo fp_Mo_13 rfl (by decide) ?_
    refine V.vret d_Mo_lay_27 rfl (Nat.le_of_ble_eq_true rfl) (Nat.le_of_ble_eq_true rfl) ?_
    first
    | (have hf : s.2.1 = false := Bool.eq_false_iff.mpr (fun z => c_4 ((pS_8 (by omega)).mpr z))
       rw [uA_uu, uA_s, wrt_ly hf, pS_ly (w := w) hf]
       exact hQ)
    | (have hf : s.2.1 = true := (pS_8 (by omega)).mp c_4
       have e1 : ly w s = s := if_pos hf
       rw [e1] at hQ
       exact hQ)
abbrev M_Mo_takes : MD := (⟨"FelledByNamesModel", "takes", "(I)Z"⟩, prog_14_method_16_code, 2, (some .boolean), fun _ => True)
theorem d_Mo_takes_0 : decode prog_14_method_16_code 0 = .ok (.aload_n 0, 1) := by decide +kernel
theorem d_Mo_takes_1 : decode prog_14_method_16_code 1 = .ok (.invokevirtual 79, 3) := by decide +kernel
theorem kB_Mo_here : kB M_Mo_here 0 := ⟨tm 15 (by decide +kernel) rfl, tm 1187 (by decide +kernel) rfl, ⟨by decide, by decide, by decide +kernel⟩, by decide⟩
theorem k_Mo_79_Mo_here_MoV : kV "FelledByNamesModel" 79 5 M_Mo_here 0 := ⟨kB_Mo_here, tm 1184 (by decide +kernel) rfl, tm 1186 (by decide +kernel) rfl, tp 21 (by decide +kernel) rfl, _, rfl, rfl⟩
theorem d_Mo_takes_4 : decode prog_14_method_16_code 4 = .ok (.iload_n 1, 1) := by decide +kernel
theorem d_Mo_takes_5 : decode prog_14_method_16_code 5 = .ok (.if_icmp .eq 5, 3) := by decide +kernel
theorem d_Mo_takes_10 : decode prog_14_method_16_code 10 = .ok (.aload_n 0, 1) := by decide +kernel
theorem d_Mo_takes_11 : decode prog_14_method_16_code 11 = .ok (.dup, 1) := by decide +kernel
theorem d_Mo_takes_12 : decode prog_14_method_16_code 12 = .ok (.getfield 66, 3) := by decide +kernel
theorem d_Mo_takes_15 : decode prog_14_method_16_code 15 = .ok (.iconst 1, 1) := by decide +kernel
theorem d_Mo_takes_16 : decode prog_14_method_16_code 16 = .ok (.iadd, 1) := by decide +kernel
theorem d_Mo_takes_17 : decode prog_14_method_16_code 17 = .ok (.putfield 66, 3) := by decide +kernel
theorem fp_Mo_6 : fpk 5 6 (.int) := ⟨_, _, _, rfl, rfl, by decide +kernel⟩
theorem d_Mo_takes_20 : decode prog_14_method_16_code 20 = .ok (.iconst 1, 1) := by decide +kernel
theorem d_Mo_takes_21 : decode prog_14_method_16_code 21 = .ok (.ireturn, 1) := by decide +kernel
theorem d_Mo_takes_8 : decode prog_14_method_16_code 8 = .ok (.iconst 0, 1) := by decide +kernel
theorem d_Mo_takes_9 : decode prog_14_method_16_code 9 = .ok (.ireturn, 1) := by decide +kernel
set_option maxRecDepth 100000 in
theorem c_Mo_takes {s : PS} {w : Nat} {l : Launch} {q : Nat} {D : Nat → Int32} {A : Nat → Nat → Int32} {S : Nat → Int32} {h0 : HP} {sz op : Nat} {wd : Bool} {d n : Nat} {Q : QT} (hw : w < 1000) (hz : sz ≤ 50) (h1 : s.1 ≤ sz) (hT : hr (fun j => D (228 + j)) sz s = nI w → Q (some (.int (bi true))) n (mo q D (uA A 5 (wrt (A 5) 0 (adv s).2.2)) (pS S sz wd op (adv s)) h0)) (hF : ¬ hr (fun j => D (228 + j)) sz s = nI w → Q (some (.int (bi false))) n (mo q D (uA A 5 (wrt (A 5) 0 (s).2.2)) (pS S sz wd op (s)) h0)) : Ct l M_Mo_takes (d + 1) 0 0 [.ref q, .int (nI w)] n (mo q D (uA A 5 (wrt (A 5) 0 (s).2.2)) (pS S sz wd op (s)) h0) Q := by
  refine Ct.of (fun _ => trivial) (by decide) (Nat.le_of_ble_eq_true rfl) ?_
  refine V.aload_n d_Mo_takes_0 rfl ?_
  refine V.callV0 d_Mo_takes_1 k_Mo_79_Mo_here_MoV mo_o (Nat.le_of_ble_eq_true rfl) (by omega) (by omega) (c_Mo_here hz (by omega) ?_)
  refine V.iload_n d_Mo_takes_4 rfl ?_
  refine V.icmp_eq (tgt := 10) d_Mo_takes_5 (by decide) (fun c_5 => ?_) (fun c_5 => ?_)
  · skip
    refine V.aload_n d_Mo_takes_10 rfl ?_
    refine V.dup rfl d_Mo_takes_11 ?_
    refine V.get d_Mo_takes_12 f_Mo_66_Mo mo_o rfl ?_
    refine V.top (y := nI (s.1)) rfl ?_
    refine V.iconst_ (nI 1) d_Mo_takes_15 (by decide +kernel) ?_
    refine V.addN d_Mo_takes_16 ?_
    refine V.mput d_Mo_takes_17 f_Mo_66_Mo fp_Mo_6 rfl (by decide) ?_
    refine V.iconst_ (nI 1) d_Mo_takes_20 (by decide +kernel) ?_
    refine V.zret d_Mo_takes_21 rfl rfl (Nat.le_of_ble_eq_true rfl) (Nat.le_of_ble_eq_true rfl) ?_
    rw [pS_at (hr_lt (by omega) c_5).2]
    exact hT c_5
  · skip
    refine V.iconst_ (nI 0) d_Mo_takes_8 (by decide +kernel) ?_
    refine V.zret d_Mo_takes_9 rfl rfl (Nat.le_of_ble_eq_true rfl) (Nat.le_of_ble_eq_true rfl) ?_
    exact hF c_5
def tkP (f : Nat → Int32) (sz w : Nat) (s : PS) : PS := if hr f sz s = nI w then adv s else s
theorem c_Mo_tk {s : PS} {w : Nat} {l : Launch} {q : Nat} {D : Nat → Int32} {A : Nat → Nat → Int32} {S : Nat → Int32} {h0 : HP} {sz op : Nat} {wd : Bool} {d n : Nat} {Q : QT} (hw : w < 1000) (hz : sz ≤ 50) (h1 : s.1 ≤ sz) (hQ : Q (some (.int (bi (decide (hr (fun j => D (228 + j)) sz s = nI w))))) n (mo q D (uA A 5 (wrt (A 5) 0 (tkP (fun j => D (228 + j)) sz w s).2.2)) (pS S sz wd op (tkP (fun j => D (228 + j)) sz w s)) h0)) : Ct l M_Mo_takes (d + 1) 0 0 [.ref q, .int (nI w)] n (mo q D (uA A 5 (wrt (A 5) 0 (s).2.2)) (pS S sz wd op (s)) h0) Q := by
  by_cases hc : hr (fun j => D (228 + j)) sz s = nI w
  · refine c_Mo_takes hw hz h1 (fun _ => ?_) (fun z => absurd hc z)
    rw [decide_eq_true hc, show tkP (fun j => D (228 + j)) sz w s = adv s from if_pos hc] at hQ
    exact hQ
  · refine c_Mo_takes hw hz h1 (fun z => absurd z hc) (fun _ => ?_)
    rw [decide_eq_false hc, show tkP (fun j => D (228 + j)) sz w s = s from if_neg hc] at hQ
    exact hQ
abbrev M_Mo_nameOf : MD := (⟨"FelledByNamesModel", "nameOf", "(I)I"⟩, prog_14_method_17_code, 2, (some .int), fun _ => True)
theorem d_Mo_nameOf_0 : decode prog_14_method_17_code 0 = .ok (.iload_n 1, 1) := by decide +kernel
theorem d_Mo_nameOf_1 : decode prog_14_method_17_code 1 = .ok (.aload_n 0, 1) := by decide +kernel
theorem d_Mo_nameOf_2 : decode prog_14_method_17_code 2 = .ok (.getfield 83, 3) := by decide +kernel
theorem f_Mo_83_Mo : fok "FelledByNamesModel" 83 5 10 := ⟨R_Mo, F_Mo, 26, "FelledByNamesModel", rfl, i_Mo, by decide, tm 1069 (by decide +kernel) rfl, Or.inl rfl, t_Mo, t_Mo_ok, n_Mo⟩
theorem d_Mo_nameOf_5 : decode prog_14_method_17_code 5 = .ok (.ifCond .eq 8, 3) := by decide +kernel
theorem d_Mo_nameOf_13 : decode prog_14_method_17_code 13 = .ok (.bipush 104, 2) := by decide +kernel
theorem d_Mo_nameOf_15 : decode prog_14_method_17_code 15 = .ok (.if_icmp .ne 7, 3) := by decide +kernel
theorem d_Mo_nameOf_22 : decode prog_14_method_17_code 22 = .ok (.iload_n 1, 1) := by decide +kernel
theorem d_Mo_nameOf_23 : decode prog_14_method_17_code 23 = .ok (.aload_n 0, 1) := by decide +kernel
theorem d_Mo_nameOf_24 : decode prog_14_method_17_code 24 = .ok (.getfield 83, 3) := by decide +kernel
theorem d_Mo_nameOf_27 : decode prog_14_method_17_code 27 = .ok (.ifCond .eq 8, 3) := by decide +kernel
theorem d_Mo_nameOf_35 : decode prog_14_method_17_code 35 = .ok (.bipush 116, 2) := by decide +kernel
theorem d_Mo_nameOf_37 : decode prog_14_method_17_code 37 = .ok (.if_icmp .ne 7, 3) := by decide +kernel
theorem d_Mo_nameOf_44 : decode prog_14_method_17_code 44 = .ok (.iload_n 1, 1) := by decide +kernel
theorem d_Mo_nameOf_45 : decode prog_14_method_17_code 45 = .ok (.aload_n 0, 1) := by decide +kernel
theorem d_Mo_nameOf_46 : decode prog_14_method_17_code 46 = .ok (.getfield 83, 3) := by decide +kernel
theorem d_Mo_nameOf_49 : decode prog_14_method_17_code 49 = .ok (.ifCond .eq 8, 3) := by decide +kernel
theorem d_Mo_nameOf_57 : decode prog_14_method_17_code 57 = .ok (.bipush 100, 2) := by decide +kernel
theorem d_Mo_nameOf_59 : decode prog_14_method_17_code 59 = .ok (.if_icmp .ne 7, 3) := by decide +kernel
theorem d_Mo_nameOf_66 : decode prog_14_method_17_code 66 = .ok (.iconst (-1), 1) := by decide +kernel
theorem d_Mo_nameOf_67 : decode prog_14_method_17_code 67 = .ok (.ireturn, 1) := by decide +kernel
theorem d_Mo_nameOf_62 : decode prog_14_method_17_code 62 = .ok (.iconst 2, 1) := by decide +kernel
theorem d_Mo_nameOf_63 : decode prog_14_method_17_code 63 = .ok (.goto 4, 3) := by decide +kernel
theorem d_Mo_nameOf_52 : decode prog_14_method_17_code 52 = .ok (.bipush 112, 2) := by decide +kernel
theorem d_Mo_nameOf_54 : decode prog_14_method_17_code 54 = .ok (.goto 5, 3) := by decide +kernel
theorem d_Mo_nameOf_40 : decode prog_14_method_17_code 40 = .ok (.iconst 1, 1) := by decide +kernel
theorem d_Mo_nameOf_41 : decode prog_14_method_17_code 41 = .ok (.goto 26, 3) := by decide +kernel
theorem d_Mo_nameOf_30 : decode prog_14_method_17_code 30 = .ok (.bipush 109, 2) := by decide +kernel
theorem d_Mo_nameOf_32 : decode prog_14_method_17_code 32 = .ok (.goto 5, 3) := by decide +kernel
theorem d_Mo_nameOf_18 : decode prog_14_method_17_code 18 = .ok (.iconst 0, 1) := by decide +kernel
theorem d_Mo_nameOf_19 : decode prog_14_method_17_code 19 = .ok (.goto 48, 3) := by decide +kernel
theorem d_Mo_nameOf_8 : decode prog_14_method_17_code 8 = .ok (.bipush 120, 2) := by decide +kernel
theorem d_Mo_nameOf_10 : decode prog_14_method_17_code 10 = .ok (.goto 5, 3) := by decide +kernel
set_option maxRecDepth 100000 in
theorem c_Mo_nameOf {s : PS} {x : Int32} {l : Launch} {q : Nat} {D : Nat → Int32} {A : Nat → Nat → Int32} {S : Nat → Int32} {h0 : HP} {sz op : Nat} {wd : Bool} {d n : Nat} {Q : QT} (hS : ∀ k, nmo wd x = some k → Q (some (.int (nI k))) n (mo q D (uA A 5 (wrt (A 5) 0 (s).2.2)) (pS S sz wd op (s)) h0)) (hN : nmo wd x = none → Q (some (.int (-1))) n (mo q D (uA A 5 (wrt (A 5) 0 (s).2.2)) (pS S sz wd op (s)) h0)) : Ct l M_Mo_nameOf d 0 0 [.ref q, .int x] n (mo q D (uA A 5 (wrt (A 5) 0 (s).2.2)) (pS S sz wd op (s)) h0) Q := by
  refine Ct.of (fun _ => trivial) (by decide) (Nat.le_of_ble_eq_true rfl) ?_
  refine V.iload_n d_Mo_nameOf_0 rfl ?_
  refine V.aload_n d_Mo_nameOf_1 rfl ?_
  refine V.get d_Mo_nameOf_2 f_Mo_83_Mo mo_o rfl ?_
  refine V.eqS (st' := .int (bi wd) :: _) rfl ?_
  refine V.ifeqB (tgt := 13) d_Mo_nameOf_5 (by decide) (fun c_5 => ?_) (fun c_5 => ?_)
  · skip
    refine V.bipush_ (nI 104) d_Mo_nameOf_13 (by decide +kernel) ?_
    refine V.icmp_ne (tgt := 22) d_Mo_nameOf_15 (by decide) (fun c_15 => ?_) (fun c_15 => ?_)
    · skip
      refine V.iload_n d_Mo_nameOf_22 rfl ?_
      refine V.aload_n d_Mo_nameOf_23 rfl ?_
      refine V.get d_Mo_nameOf_24 f_Mo_83_Mo mo_o rfl ?_
      refine V.eqS (st' := .int (bi wd) :: _) rfl ?_
      refine V.ifeqB (tgt := 35) d_Mo_nameOf_27 (by decide) (fun c_27 => ?_) (fun c_27 => ?_)
      · skip
        refine V.bipush_ (nI 116) d_Mo_nameOf_35 (by decide +kernel) ?_
        refine V.icmp_ne (tgt := 44) d_Mo_nameOf_37 (by decide) (fun c_37 => ?_) (fun c_37 => ?_)
        · skip
          refine V.iload_n d_Mo_nameOf_44 rfl ?_
          refine V.aload_n d_Mo_nameOf_45 rfl ?_
          refine V.get d_Mo_nameOf_46 f_Mo_83_Mo mo_o rfl ?_
          refine V.eqS (st' := .int (bi wd) :: _) rfl ?_
          refine V.ifeqB (tgt := 57) d_Mo_nameOf_49 (by decide) (fun c_49 => ?_) (fun c_49 => ?_)
          · skip
            refine V.bipush_ (nI 100) d_Mo_nameOf_57 (by decide +kernel) ?_
            refine V.icmp_ne (tgt := 66) d_Mo_nameOf_59 (by decide) (fun c_59 => ?_) (fun c_59 => ?_)
            · skip
              refine V.iconst_ (-1) d_Mo_nameOf_66 (by decide +kernel) ?_
              refine V.iret d_Mo_nameOf_67 rfl (Nat.le_of_ble_eq_true rfl) (Nat.le_of_ble_eq_true rfl) ?_
              first
              | (cases wd with
                 | false => first
                   | exact absurd c_5 (by decide)
                   | exact absurd c_27 (by decide)
                   | exact absurd c_49 (by decide)
                   | (have e : nmo false x = some 0 := by (simp only [nmo, Bool.false_eq_true, if_false, if_true]; rw [if_pos c_15])
                      exact hS _ e)
                   | (have e : nmo false x = some 1 := by (simp only [nmo, Bool.false_eq_true, if_false, if_true]; rw [if_neg c_15, if_pos c_37])
                      exact hS _ e)
                   | (have e : nmo false x = some 2 := by (simp only [nmo, Bool.false_eq_true, if_false, if_true]; rw [if_neg c_15, if_neg c_37, if_pos c_59])
                      exact hS _ e)
                   | (have e : nmo false x = none := by (simp only [nmo, Bool.false_eq_true, if_false, if_true]; rw [if_neg c_15, if_neg c_37, if_neg c_59])
                      exact hN e)
                 | true => first
                   | exact absurd c_5 (by decide)
                   | exact absurd c_27 (by decide)
                   | exact absurd c_49 (by decide)
                   | (have e : nmo true x = some 0 := by (simp only [nmo, Bool.false_eq_true, if_false, if_true]; rw [if_pos c_15])
                      exact hS _ e)
                   | (have e : nmo true x = some 1 := by (simp only [nmo, Bool.false_eq_true, if_false, if_true]; rw [if_neg c_15, if_pos c_37])
                      exact hS _ e)
                   | (have e : nmo true x = some 2 := by (simp only [nmo, Bool.false_eq_true, if_false, if_true]; rw [if_neg c_15, if_neg c_37, if_pos c_59])
                      exact hS _ e)
                   | (have e : nmo true x = none := by (simp only [nmo, Bool.false_eq_true, if_false, if_true]; rw [if_neg c_15, if_neg c_37, if_neg c_59])
                      exact hN e))
            · skip
              refine V.iconst_ (nI 2) d_Mo_nameOf_62 (by decide +kernel) ?_
              refine V.goto (tgt := 67) d_Mo_nameOf_63 (by decide) ?_
              refine V.iret d_Mo_nameOf_67 rfl (Nat.le_of_ble_eq_true rfl) (Nat.le_of_ble_eq_true rfl) ?_
              first
              | (cases wd with
                 | false => first
                   | exact absurd c_5 (by decide)
                   | exact absurd c_27 (by decide)
                   | exact absurd c_49 (by decide)
                   | (have e : nmo false x = some 0 := by (simp only [nmo, Bool.false_eq_true, if_false, if_true]; rw [if_pos c_15])
                      exact hS _ e)
                   | (have e : nmo false x = some 1 := by (simp only [nmo, Bool.false_eq_true, if_false, if_true]; rw [if_neg c_15, if_pos c_37])
                      exact hS _ e)
                   | (have e : nmo false x = some 2 := by (simp only [nmo, Bool.false_eq_true, if_false, if_true]; rw [if_neg c_15, if_neg c_37, if_pos c_59])
                      exact hS _ e)
                   | (have e : nmo false x = none := by (simp only [nmo, Bool.false_eq_true, if_false, if_true]; rw [if_neg c_15, if_neg c_37, if_neg c_59])
                      exact hN e)
                 | true => first
                   | exact absurd c_5 (by decide)
                   | exact absurd c_27 (by decide)
                   | exact absurd c_49 (by decide)
                   | (have e : nmo true x = some 0 := by (simp only [nmo, Bool.false_eq_true, if_false, if_true]; rw [if_pos c_15])
                      exact hS _ e)
                   | (have e : nmo true x = some 1 := by (simp only [nmo, Bool.false_eq_true, if_false, if_true]; rw [if_neg c_15, if_pos c_37])
                      exact hS _ e)
                   | (have e : nmo true x = some 2 := by (simp only [nmo, Bool.false_eq_true, if_false, if_true]; rw [if_neg c_15, if_neg c_37, if_pos c_59])
                      exact hS _ e)
                   | (have e : nmo true x = none := by (simp only [nmo, Bool.false_eq_true, if_false, if_true]; rw [if_neg c_15, if_neg c_37, if_neg c_59])
                      exact hN e))
          · skip
            refine V.bipush_ (nI 112) d_Mo_nameOf_52 (by decide +kernel) ?_
            refine V.goto (tgt := 59) d_Mo_nameOf_54 (by decide) ?_
            refine V.icmp_ne (tgt := 66) d_Mo_nameOf_59 (by decide) (fun c_59 => ?_) (fun c_59 => ?_)
            · skip
              refine V.iconst_ (-1) d_Mo_nameOf_66 (by decide +kernel) ?_
              refine V.iret d_Mo_nameOf_67 rfl (Nat.le_of_ble_eq_true rfl) (Nat.le_of_ble_eq_true rfl) ?_
              first
              | (cases wd with
                 | false => first
                   | exact absurd c_5 (by decide)
                   | exact absurd c_27 (by decide)
                   | exact absurd c_49 (by decide)
                   | (have e : nmo false x = some 0 := by (simp only [nmo, Bool.false_eq_true, if_false, if_true]; rw [if_pos c_15])
                      exact hS _ e)
                   | (have e : nmo false x = some 1 := by (simp only [nmo, Bool.false_eq_true, if_false, if_true]; rw [if_neg c_15, if_pos c_37])
                      exact hS _ e)
                   | (have e : nmo false x = some 2 := by (simp only [nmo, Bool.false_eq_true, if_false, if_true]; rw [if_neg c_15, if_neg c_37, if_pos c_59])
                      exact hS _ e)
                   | (have e : nmo false x = none := by (simp only [nmo, Bool.false_eq_true, if_false, if_true]; rw [if_neg c_15, if_neg c_37, if_neg c_59])
                      exact hN e)
                 | true => first
                   | exact absurd c_5 (by decide)
                   | exact absurd c_27 (by decide)
                   | exact absurd c_49 (by decide)
                   | (have e : nmo true x = some 0 := by (simp only [nmo, Bool.false_eq_true, if_false, if_true]; rw [if_pos c_15])
                      exact hS _ e)
                   | (have e : nmo true x = some 1 := by (simp only [nmo, Bool.false_eq_true, if_false, if_true]; rw [if_neg c_15, if_pos c_37])
                      exact hS _ e)
                   | (have e : nmo true x = some 2 := by (simp only [nmo, Bool.false_eq_true, if_false, if_true]; rw [if_neg c_15, if_neg c_37, if_pos c_59])
                      exact hS _ e)
                   | (have e : nmo true x = none := by (simp only [nmo, Bool.false_eq_true, if_false, if_true]; rw [if_neg c_15, if_neg c_37, if_neg c_59])
                      exact hN e))
            · skip
              refine V.iconst_ (nI 2) d_Mo_nameOf_62 (by decide +kernel) ?_
              refine V.goto (tgt := 67) d_Mo_nameOf_63 (by decide) ?_
              refine V.iret d_Mo_nameOf_67 rfl (Nat.le_of_ble_eq_true rfl) (Nat.le_of_ble_eq_true rfl) ?_
              first
              | (cases wd with
                 | false => first
                   | exact absurd c_5 (by decide)
                   | exact absurd c_27 (by decide)
                   | exact absurd c_49 (by decide)
                   | (have e : nmo false x = some 0 := by (simp only [nmo, Bool.false_eq_true, if_false, if_true]; rw [if_pos c_15])
                      exact hS _ e)
                   | (have e : nmo false x = some 1 := by (simp only [nmo, Bool.false_eq_true, if_false, if_true]; rw [if_neg c_15, if_pos c_37])
                      exact hS _ e)
                   | (have e : nmo false x = some 2 := by (simp only [nmo, Bool.false_eq_true, if_false, if_true]; rw [if_neg c_15, if_neg c_37, if_pos c_59])
                      exact hS _ e)
                   | (have e : nmo false x = none := by (simp only [nmo, Bool.false_eq_true, if_false, if_true]; rw [if_neg c_15, if_neg c_37, if_neg c_59])
                      exact hN e)
                 | true => first
                   | exact absurd c_5 (by decide)
                   | exact absurd c_27 (by decide)
                   | exact absurd c_49 (by decide)
                   | (have e : nmo true x = some 0 := by (simp only [nmo, Bool.false_eq_true, if_false, if_true]; rw [if_pos c_15])
                      exact hS _ e)
                   | (have e : nmo true x = some 1 := by (simp only [nmo, Bool.false_eq_true, if_false, if_true]; rw [if_neg c_15, if_pos c_37])
                      exact hS _ e)
                   | (have e : nmo true x = some 2 := by (simp only [nmo, Bool.false_eq_true, if_false, if_true]; rw [if_neg c_15, if_neg c_37, if_pos c_59])
                      exact hS _ e)
                   | (have e : nmo true x = none := by (simp only [nmo, Bool.false_eq_true, if_false, if_true]; rw [if_neg c_15, if_neg c_37, if_neg c_59])
                      exact hN e))
        · skip
          refine V.iconst_ (nI 1) d_Mo_nameOf_40 (by decide +kernel) ?_
          refine V.goto (tgt := 67) d_Mo_nameOf_41 (by decide) ?_
          refine V.iret d_Mo_nameOf_67 rfl (Nat.le_of_ble_eq_true rfl) (Nat.le_of_ble_eq_true rfl) ?_
          first
          | (cases wd with
             | false => first
               | exact absurd c_5 (by decide)
               | exact absurd c_27 (by decide)
               | exact absurd c_49 (by decide)
               | (have e : nmo false x = some 0 := by (simp only [nmo, Bool.false_eq_true, if_false, if_true]; rw [if_pos c_15])
                  exact hS _ e)
               | (have e : nmo false x = some 1 := by (simp only [nmo, Bool.false_eq_true, if_false, if_true]; rw [if_neg c_15, if_pos c_37])
                  exact hS _ e)
               | (have e : nmo false x = some 2 := by (simp only [nmo, Bool.false_eq_true, if_false, if_true]; rw [if_neg c_15, if_neg c_37, if_pos c_59])
                  exact hS _ e)
               | (have e : nmo false x = none := by (simp only [nmo, Bool.false_eq_true, if_false, if_true]; rw [if_neg c_15, if_neg c_37, if_neg c_59])
                  exact hN e)
             | true => first
               | exact absurd c_5 (by decide)
               | exact absurd c_27 (by decide)
               | exact absurd c_49 (by decide)
               | (have e : nmo true x = some 0 := by (simp only [nmo, Bool.false_eq_true, if_false, if_true]; rw [if_pos c_15])
                  exact hS _ e)
               | (have e : nmo true x = some 1 := by (simp only [nmo, Bool.false_eq_true, if_false, if_true]; rw [if_neg c_15, if_pos c_37])
                  exact hS _ e)
               | (have e : nmo true x = some 2 := by (simp only [nmo, Bool.false_eq_true, if_false, if_true]; rw [if_neg c_15, if_neg c_37, if_pos c_59])
                  exact hS _ e)
               | (have e : nmo true x = none := by (simp only [nmo, Bool.false_eq_true, if_false, if_true]; rw [if_neg c_15, if_neg c_37, if_neg c_59])
                  exact hN e))
      · skip
        refine V.bipush_ (nI 109) d_Mo_nameOf_30 (by decide +kernel) ?_
        refine V.goto (tgt := 37) d_Mo_nameOf_32 (by decide) ?_
        refine V.icmp_ne (tgt := 44) d_Mo_nameOf_37 (by decide) (fun c_37 => ?_) (fun c_37 => ?_)
        · skip
          refine V.iload_n d_Mo_nameOf_44 rfl ?_
          refine V.aload_n d_Mo_nameOf_45 rfl ?_
          refine V.get d_Mo_nameOf_46 f_Mo_83_Mo mo_o rfl ?_
          refine V.eqS (st' := .int (bi wd) :: _) rfl ?_
          refine V.ifeqB (tgt := 57) d_Mo_nameOf_49 (by decide) (fun c_49 => ?_) (fun c_49 => ?_)
          · skip
            refine V.bipush_ (nI 100) d_Mo_nameOf_57 (by decide +kernel) ?_
            refine V.icmp_ne (tgt := 66) d_Mo_nameOf_59 (by decide) (fun c_59 => ?_) (fun c_59 => ?_)
            · skip
              refine V.iconst_ (-1) d_Mo_nameOf_66 (by decide +kernel) ?_
              refine V.iret d_Mo_nameOf_67 rfl (Nat.le_of_ble_eq_true rfl) (Nat.le_of_ble_eq_true rfl) ?_
              first
              | (cases wd with
                 | false => first
                   | exact absurd c_5 (by decide)
                   | exact absurd c_27 (by decide)
                   | exact absurd c_49 (by decide)
                   | (have e : nmo false x = some 0 := by (simp only [nmo, Bool.false_eq_true, if_false, if_true]; rw [if_pos c_15])
                      exact hS _ e)
                   | (have e : nmo false x = some 1 := by (simp only [nmo, Bool.false_eq_true, if_false, if_true]; rw [if_neg c_15, if_pos c_37])
                      exact hS _ e)
                   | (have e : nmo false x = some 2 := by (simp only [nmo, Bool.false_eq_true, if_false, if_true]; rw [if_neg c_15, if_neg c_37, if_pos c_59])
                      exact hS _ e)
                   | (have e : nmo false x = none := by (simp only [nmo, Bool.false_eq_true, if_false, if_true]; rw [if_neg c_15, if_neg c_37, if_neg c_59])
                      exact hN e)
                 | true => first
                   | exact absurd c_5 (by decide)
                   | exact absurd c_27 (by decide)
                   | exact absurd c_49 (by decide)
                   | (have e : nmo true x = some 0 := by (simp only [nmo, Bool.false_eq_true, if_false, if_true]; rw [if_pos c_15])
                      exact hS _ e)
                   | (have e : nmo true x = some 1 := by (simp only [nmo, Bool.false_eq_true, if_false, if_true]; rw [if_neg c_15, if_pos c_37])
                      exact hS _ e)
                   | (have e : nmo true x = some 2 := by (simp only [nmo, Bool.false_eq_true, if_false, if_true]; rw [if_neg c_15, if_neg c_37, if_pos c_59])
                      exact hS _ e)
                   | (have e : nmo true x = none := by (simp only [nmo, Bool.false_eq_true, if_false, if_true]; rw [if_neg c_15, if_neg c_37, if_neg c_59])
                      exact hN e))
            · skip
              refine V.iconst_ (nI 2) d_Mo_nameOf_62 (by decide +kernel) ?_
              refine V.goto (tgt := 67) d_Mo_nameOf_63 (by decide) ?_
              refine V.iret d_Mo_nameOf_67 rfl (Nat.le_of_ble_eq_true rfl) (Nat.le_of_ble_eq_true rfl) ?_
              first
              | (cases wd with
                 | false => first
                   | exact absurd c_5 (by decide)
                   | exact absurd c_27 (by decide)
                   | exact absurd c_49 (by decide)
                   | (have e : nmo false x = some 0 := by (simp only [nmo, Bool.false_eq_true, if_false, if_true]; rw [if_pos c_15])
                      exact hS _ e)
                   | (have e : nmo false x = some 1 := by (simp only [nmo, Bool.false_eq_true, if_false, if_true]; rw [if_neg c_15, if_pos c_37])
                      exact hS _ e)
                   | (have e : nmo false x = some 2 := by (simp only [nmo, Bool.false_eq_true, if_false, if_true]; rw [if_neg c_15, if_neg c_37, if_pos c_59])
                      exact hS _ e)
                   | (have e : nmo false x = none := by (simp only [nmo, Bool.false_eq_true, if_false, if_true]; rw [if_neg c_15, if_neg c_37, if_neg c_59])
                      exact hN e)
                 | true => first
                   | exact absurd c_5 (by decide)
                   | exact absurd c_27 (by decide)
                   | exact absurd c_49 (by decide)
                   | (have e : nmo true x = some 0 := by (simp only [nmo, Bool.false_eq_true, if_false, if_true]; rw [if_pos c_15])
                      exact hS _ e)
                   | (have e : nmo true x = some 1 := by (simp only [nmo, Bool.false_eq_true, if_false, if_true]; rw [if_neg c_15, if_pos c_37])
                      exact hS _ e)
                   | (have e : nmo true x = some 2 := by (simp only [nmo, Bool.false_eq_true, if_false, if_true]; rw [if_neg c_15, if_neg c_37, if_pos c_59])
                      exact hS _ e)
                   | (have e : nmo true x = none := by (simp only [nmo, Bool.false_eq_true, if_false, if_true]; rw [if_neg c_15, if_neg c_37, if_neg c_59])
                      exact hN e))
          · skip
            refine V.bipush_ (nI 112) d_Mo_nameOf_52 (by decide +kernel) ?_
            refine V.goto (tgt := 59) d_Mo_nameOf_54 (by decide) ?_
            refine V.icmp_ne (tgt := 66) d_Mo_nameOf_59 (by decide) (fun c_59 => ?_) (fun c_59 => ?_)
            · skip
              refine V.iconst_ (-1) d_Mo_nameOf_66 (by decide +kernel) ?_
              refine V.iret d_Mo_nameOf_67 rfl (Nat.le_of_ble_eq_true rfl) (Nat.le_of_ble_eq_true rfl) ?_
              first
              | (cases wd with
                 | false => first
                   | exact absurd c_5 (by decide)
                   | exact absurd c_27 (by decide)
                   | exact absurd c_49 (by decide)
                   | (have e : nmo false x = some 0 := by (simp only [nmo, Bool.false_eq_true, if_false, if_true]; rw [if_pos c_15])
                      exact hS _ e)
                   | (have e : nmo false x = some 1 := by (simp only [nmo, Bool.false_eq_true, if_false, if_true]; rw [if_neg c_15, if_pos c_37])
                      exact hS _ e)
                   | (have e : nmo false x = some 2 := by (simp only [nmo, Bool.false_eq_true, if_false, if_true]; rw [if_neg c_15, if_neg c_37, if_pos c_59])
                      exact hS _ e)
                   | (have e : nmo false x = none := by (simp only [nmo, Bool.false_eq_true, if_false, if_true]; rw [if_neg c_15, if_neg c_37, if_neg c_59])
                      exact hN e)
                 | true => first
                   | exact absurd c_5 (by decide)
                   | exact absurd c_27 (by decide)
                   | exact absurd c_49 (by decide)
                   | (have e : nmo true x = some 0 := by (simp only [nmo, Bool.false_eq_true, if_false, if_true]; rw [if_pos c_15])
                      exact hS _ e)
                   | (have e : nmo true x = some 1 := by (simp only [nmo, Bool.false_eq_true, if_false, if_true]; rw [if_neg c_15, if_pos c_37])
                      exact hS _ e)
                   | (have e : nmo true x = some 2 := by (simp only [nmo, Bool.false_eq_true, if_false, if_true]; rw [if_neg c_15, if_neg c_37, if_pos c_59])
                      exact hS _ e)
                   | (have e : nmo true x = none := by (simp only [nmo, Bool.false_eq_true, if_false, if_true]; rw [if_neg c_15, if_neg c_37, if_neg c_59])
                      exact hN e))
            · skip
              refine V.iconst_ (nI 2) d_Mo_nameOf_62 (by decide +kernel) ?_
              refine V.goto (tgt := 67) d_Mo_nameOf_63 (by decide) ?_
              refine V.iret d_Mo_nameOf_67 rfl (Nat.le_of_ble_eq_true rfl) (Nat.le_of_ble_eq_true rfl) ?_
              first
              | (cases wd with
                 | false => first
                   | exact absurd c_5 (by decide)
                   | exact absurd c_27 (by decide)
                   | exact absurd c_49 (by decide)
                   | (have e : nmo false x = some 0 := by (simp only [nmo, Bool.false_eq_true, if_false, if_true]; rw [if_pos c_15])
                      exact hS _ e)
                   | (have e : nmo false x = some 1 := by (simp only [nmo, Bool.false_eq_true, if_false, if_true]; rw [if_neg c_15, if_pos c_37])
                      exact hS _ e)
                   | (have e : nmo false x = some 2 := by (simp only [nmo, Bool.false_eq_true, if_false, if_true]; rw [if_neg c_15, if_neg c_37, if_pos c_59])
                      exact hS _ e)
                   | (have e : nmo false x = none := by (simp only [nmo, Bool.false_eq_true, if_false, if_true]; rw [if_neg c_15, if_neg c_37, if_neg c_59])
                      exact hN e)
                 | true => first
                   | exact absurd c_5 (by decide)
                   | exact absurd c_27 (by decide)
                   | exact absurd c_49 (by decide)
                   | (have e : nmo true x = some 0 := by (simp only [nmo, Bool.false_eq_true, if_false, if_true]; rw [if_pos c_15])
                      exact hS _ e)
                   | (have e : nmo true x = some 1 := by (simp only [nmo, Bool.false_eq_true, if_false, if_true]; rw [if_neg c_15, if_pos c_37])
                      exact hS _ e)
                   | (have e : nmo true x = some 2 := by (simp only [nmo, Bool.false_eq_true, if_false, if_true]; rw [if_neg c_15, if_neg c_37, if_pos c_59])
                      exact hS _ e)
                   | (have e : nmo true x = none := by (simp only [nmo, Bool.false_eq_true, if_false, if_true]; rw [if_neg c_15, if_neg c_37, if_neg c_59])
                      exact hN e))
        · skip
          refine V.iconst_ (nI 1) d_Mo_nameOf_40 (by decide +kernel) ?_
          refine V.goto (tgt := 67) d_Mo_nameOf_41 (by decide) ?_
          refine V.iret d_Mo_nameOf_67 rfl (Nat.le_of_ble_eq_true rfl) (Nat.le_of_ble_eq_true rfl) ?_
          first
          | (cases wd with
             | false => first
               | exact absurd c_5 (by decide)
               | exact absurd c_27 (by decide)
               | exact absurd c_49 (by decide)
               | (have e : nmo false x = some 0 := by (simp only [nmo, Bool.false_eq_true, if_false, if_true]; rw [if_pos c_15])
                  exact hS _ e)
               | (have e : nmo false x = some 1 := by (simp only [nmo, Bool.false_eq_true, if_false, if_true]; rw [if_neg c_15, if_pos c_37])
                  exact hS _ e)
               | (have e : nmo false x = some 2 := by (simp only [nmo, Bool.false_eq_true, if_false, if_true]; rw [if_neg c_15, if_neg c_37, if_pos c_59])
                  exact hS _ e)
               | (have e : nmo false x = none := by (simp only [nmo, Bool.false_eq_true, if_false, if_true]; rw [if_neg c_15, if_neg c_37, if_neg c_59])
                  exact hN e)
             | true => first
               | exact absurd c_5 (by decide)
               | exact absurd c_27 (by decide)
               | exact absurd c_49 (by decide)
               | (have e : nmo true x = some 0 := by (simp only [nmo, Bool.false_eq_true, if_false, if_true]; rw [if_pos c_15])
                  exact hS _ e)
               | (have e : nmo true x = some 1 := by (simp only [nmo, Bool.false_eq_true, if_false, if_true]; rw [if_neg c_15, if_pos c_37])
                  exact hS _ e)
               | (have e : nmo true x = some 2 := by (simp only [nmo, Bool.false_eq_true, if_false, if_true]; rw [if_neg c_15, if_neg c_37, if_pos c_59])
                  exact hS _ e)
               | (have e : nmo true x = none := by (simp only [nmo, Bool.false_eq_true, if_false, if_true]; rw [if_neg c_15, if_neg c_37, if_neg c_59])
                  exact hN e))
    · skip
      refine V.iconst_ (nI 0) d_Mo_nameOf_18 (by decide +kernel) ?_
      refine V.goto (tgt := 67) d_Mo_nameOf_19 (by decide) ?_
      refine V.iret d_Mo_nameOf_67 rfl (Nat.le_of_ble_eq_true rfl) (Nat.le_of_ble_eq_true rfl) ?_
      first
      | (cases wd with
         | false => first
           | exact absurd c_5 (by decide)
           | exact absurd c_27 (by decide)
           | exact absurd c_49 (by decide)
           | (have e : nmo false x = some 0 := by (simp only [nmo, Bool.false_eq_true, if_false, if_true]; rw [if_pos c_15])
              exact hS _ e)
           | (have e : nmo false x = some 1 := by (simp only [nmo, Bool.false_eq_true, if_false, if_true]; rw [if_neg c_15, if_pos c_37])
              exact hS _ e)
           | (have e : nmo false x = some 2 := by (simp only [nmo, Bool.false_eq_true, if_false, if_true]; rw [if_neg c_15, if_neg c_37, if_pos c_59])
              exact hS _ e)
           | (have e : nmo false x = none := by (simp only [nmo, Bool.false_eq_true, if_false, if_true]; rw [if_neg c_15, if_neg c_37, if_neg c_59])
              exact hN e)
         | true => first
           | exact absurd c_5 (by decide)
           | exact absurd c_27 (by decide)
           | exact absurd c_49 (by decide)
           | (have e : nmo true x = some 0 := by (simp only [nmo, Bool.false_eq_true, if_false, if_true]; rw [if_pos c_15])
              exact hS _ e)
           | (have e : nmo true x = some 1 := by (simp only [nmo, Bool.false_eq_true, if_false, if_true]; rw [if_neg c_15, if_pos c_37])
              exact hS _ e)
           | (have e : nmo true x = some 2 := by (simp only [nmo, Bool.false_eq_true, if_false, if_true]; rw [if_neg c_15, if_neg c_37, if_pos c_59])
              exact hS _ e)
           | (have e : nmo true x = none := by (simp only [nmo, Bool.false_eq_true, if_false, if_true]; rw [if_neg c_15, if_neg c_37, if_neg c_59])
              exact hN e))
  · skip
    refine V.bipush_ (nI 120) d_Mo_nameOf_8 (by decide +kernel) ?_
    refine V.goto (tgt := 15) d_Mo_nameOf_10 (by decide) ?_
    refine V.icmp_ne (tgt := 22) d_Mo_nameOf_15 (by decide) (fun c_15 => ?_) (fun c_15 => ?_)
    · skip
      refine V.iload_n d_Mo_nameOf_22 rfl ?_
      refine V.aload_n d_Mo_nameOf_23 rfl ?_
      refine V.get d_Mo_nameOf_24 f_Mo_83_Mo mo_o rfl ?_
      refine V.eqS (st' := .int (bi wd) :: _) rfl ?_
      refine V.ifeqB (tgt := 35) d_Mo_nameOf_27 (by decide) (fun c_27 => ?_) (fun c_27 => ?_)
      · skip
        refine V.bipush_ (nI 116) d_Mo_nameOf_35 (by decide +kernel) ?_
        refine V.icmp_ne (tgt := 44) d_Mo_nameOf_37 (by decide) (fun c_37 => ?_) (fun c_37 => ?_)
        · skip
          refine V.iload_n d_Mo_nameOf_44 rfl ?_
          refine V.aload_n d_Mo_nameOf_45 rfl ?_
          refine V.get d_Mo_nameOf_46 f_Mo_83_Mo mo_o rfl ?_
          refine V.eqS (st' := .int (bi wd) :: _) rfl ?_
          refine V.ifeqB (tgt := 57) d_Mo_nameOf_49 (by decide) (fun c_49 => ?_) (fun c_49 => ?_)
          · skip
            refine V.bipush_ (nI 100) d_Mo_nameOf_57 (by decide +kernel) ?_
            refine V.icmp_ne (tgt := 66) d_Mo_nameOf_59 (by decide) (fun c_59 => ?_) (fun c_59 => ?_)
            · skip
              refine V.iconst_ (-1) d_Mo_nameOf_66 (by decide +kernel) ?_
              refine V.iret d_Mo_nameOf_67 rfl (Nat.le_of_ble_eq_true rfl) (Nat.le_of_ble_eq_true rfl) ?_
              first
              | (cases wd with
                 | false => first
                   | exact absurd c_5 (by decide)
                   | exact absurd c_27 (by decide)
                   | exact absurd c_49 (by decide)
                   | (have e : nmo false x = some 0 := by (simp only [nmo, Bool.false_eq_true, if_false, if_true]; rw [if_pos c_15])
                      exact hS _ e)
                   | (have e : nmo false x = some 1 := by (simp only [nmo, Bool.false_eq_true, if_false, if_true]; rw [if_neg c_15, if_pos c_37])
                      exact hS _ e)
                   | (have e : nmo false x = some 2 := by (simp only [nmo, Bool.false_eq_true, if_false, if_true]; rw [if_neg c_15, if_neg c_37, if_pos c_59])
                      exact hS _ e)
                   | (have e : nmo false x = none := by (simp only [nmo, Bool.false_eq_true, if_false, if_true]; rw [if_neg c_15, if_neg c_37, if_neg c_59])
                      exact hN e)
                 | true => first
                   | exact absurd c_5 (by decide)
                   | exact absurd c_27 (by decide)
                   | exact absurd c_49 (by decide)
                   | (have e : nmo true x = some 0 := by (simp only [nmo, Bool.false_eq_true, if_false, if_true]; rw [if_pos c_15])
                      exact hS _ e)
                   | (have e : nmo true x = some 1 := by (simp only [nmo, Bool.false_eq_true, if_false, if_true]; rw [if_neg c_15, if_pos c_37])
                      exact hS _ e)
                   | (have e : nmo true x = some 2 := by (simp only [nmo, Bool.false_eq_true, if_false, if_true]; rw [if_neg c_15, if_neg c_37, if_pos c_59])
                      exact hS _ e)
                   | (have e : nmo true x = none := by (simp only [nmo, Bool.false_eq_true, if_false, if_true]; rw [if_neg c_15, if_neg c_37, if_neg c_59])
                      exact hN e))
            · skip
              refine V.iconst_ (nI 2) d_Mo_nameOf_62 (by decide +kernel) ?_
              refine V.goto (tgt := 67) d_Mo_nameOf_63 (by decide) ?_
              refine V.iret d_Mo_nameOf_67 rfl (Nat.le_of_ble_eq_true rfl) (Nat.le_of_ble_eq_true rfl) ?_
              first
              | (cases wd with
                 | false => first
                   | exact absurd c_5 (by decide)
                   | exact absurd c_27 (by decide)
                   | exact absurd c_49 (by decide)
                   | (have e : nmo false x = some 0 := by (simp only [nmo, Bool.false_eq_true, if_false, if_true]; rw [if_pos c_15])
                      exact hS _ e)
                   | (have e : nmo false x = some 1 := by (simp only [nmo, Bool.false_eq_true, if_false, if_true]; rw [if_neg c_15, if_pos c_37])
                      exact hS _ e)
                   | (have e : nmo false x = some 2 := by (simp only [nmo, Bool.false_eq_true, if_false, if_true]; rw [if_neg c_15, if_neg c_37, if_pos c_59])
                      exact hS _ e)
                   | (have e : nmo false x = none := by (simp only [nmo, Bool.false_eq_true, if_false, if_true]; rw [if_neg c_15, if_neg c_37, if_neg c_59])
                      exact hN e)
                 | true => first
                   | exact absurd c_5 (by decide)
                   | exact absurd c_27 (by decide)
                   | exact absurd c_49 (by decide)
                   | (have e : nmo true x = some 0 := by (simp only [nmo, Bool.false_eq_true, if_false, if_true]; rw [if_pos c_15])
                      exact hS _ e)
                   | (have e : nmo true x = some 1 := by (simp only [nmo, Bool.false_eq_true, if_false, if_true]; rw [if_neg c_15, if_pos c_37])
                      exact hS _ e)
                   | (have e : nmo true x = some 2 := by (simp only [nmo, Bool.false_eq_true, if_false, if_true]; rw [if_neg c_15, if_neg c_37, if_pos c_59])
                      exact hS _ e)
                   | (have e : nmo true x = none := by (simp only [nmo, Bool.false_eq_true, if_false, if_true]; rw [if_neg c_15, if_neg c_37, if_neg c_59])
                      exact hN e))
          · skip
            refine V.bipush_ (nI 112) d_Mo_nameOf_52 (by decide +kernel) ?_
            refine V.goto (tgt := 59) d_Mo_nameOf_54 (by decide) ?_
            refine V.icmp_ne (tgt := 66) d_Mo_nameOf_59 (by decide) (fun c_59 => ?_) (fun c_59 => ?_)
            · skip
              refine V.iconst_ (-1) d_Mo_nameOf_66 (by decide +kernel) ?_
              refine V.iret d_Mo_nameOf_67 rfl (Nat.le_of_ble_eq_true rfl) (Nat.le_of_ble_eq_true rfl) ?_
              first
              | (cases wd with
                 | false => first
                   | exact absurd c_5 (by decide)
                   | exact absurd c_27 (by decide)
                   | exact absurd c_49 (by decide)
                   | (have e : nmo false x = some 0 := by (simp only [nmo, Bool.false_eq_true, if_false, if_true]; rw [if_pos c_15])
                      exact hS _ e)
                   | (have e : nmo false x = some 1 := by (simp only [nmo, Bool.false_eq_true, if_false, if_true]; rw [if_neg c_15, if_pos c_37])
                      exact hS _ e)
                   | (have e : nmo false x = some 2 := by (simp only [nmo, Bool.false_eq_true, if_false, if_true]; rw [if_neg c_15, if_neg c_37, if_pos c_59])
                      exact hS _ e)
                   | (have e : nmo false x = none := by (simp only [nmo, Bool.false_eq_true, if_false, if_true]; rw [if_neg c_15, if_neg c_37, if_neg c_59])
                      exact hN e)
                 | true => first
                   | exact absurd c_5 (by decide)
                   | exact absurd c_27 (by decide)
                   | exact absurd c_49 (by decide)
                   | (have e : nmo true x = some 0 := by (simp only [nmo, Bool.false_eq_true, if_false, if_true]; rw [if_pos c_15])
                      exact hS _ e)
                   | (have e : nmo true x = some 1 := by (simp only [nmo, Bool.false_eq_true, if_false, if_true]; rw [if_neg c_15, if_pos c_37])
                      exact hS _ e)
                   | (have e : nmo true x = some 2 := by (simp only [nmo, Bool.false_eq_true, if_false, if_true]; rw [if_neg c_15, if_neg c_37, if_pos c_59])
                      exact hS _ e)
                   | (have e : nmo true x = none := by (simp only [nmo, Bool.false_eq_true, if_false, if_true]; rw [if_neg c_15, if_neg c_37, if_neg c_59])
                      exact hN e))
            · skip
              refine V.iconst_ (nI 2) d_Mo_nameOf_62 (by decide +kernel) ?_
              refine V.goto (tgt := 67) d_Mo_nameOf_63 (by decide) ?_
              refine V.iret d_Mo_nameOf_67 rfl (Nat.le_of_ble_eq_true rfl) (Nat.le_of_ble_eq_true rfl) ?_
              first
              | (cases wd with
                 | false => first
                   | exact absurd c_5 (by decide)
                   | exact absurd c_27 (by decide)
                   | exact absurd c_49 (by decide)
                   | (have e : nmo false x = some 0 := by (simp only [nmo, Bool.false_eq_true, if_false, if_true]; rw [if_pos c_15])
                      exact hS _ e)
                   | (have e : nmo false x = some 1 := by (simp only [nmo, Bool.false_eq_true, if_false, if_true]; rw [if_neg c_15, if_pos c_37])
                      exact hS _ e)
                   | (have e : nmo false x = some 2 := by (simp only [nmo, Bool.false_eq_true, if_false, if_true]; rw [if_neg c_15, if_neg c_37, if_pos c_59])
                      exact hS _ e)
                   | (have e : nmo false x = none := by (simp only [nmo, Bool.false_eq_true, if_false, if_true]; rw [if_neg c_15, if_neg c_37, if_neg c_59])
                      exact hN e)
                 | true => first
                   | exact absurd c_5 (by decide)
                   | exact absurd c_27 (by decide)
                   | exact absurd c_49 (by decide)
                   | (have e : nmo true x = some 0 := by (simp only [nmo, Bool.false_eq_true, if_false, if_true]; rw [if_pos c_15])
                      exact hS _ e)
                   | (have e : nmo true x = some 1 := by (simp only [nmo, Bool.false_eq_true, if_false, if_true]; rw [if_neg c_15, if_pos c_37])
                      exact hS _ e)
                   | (have e : nmo true x = some 2 := by (simp only [nmo, Bool.false_eq_true, if_false, if_true]; rw [if_neg c_15, if_neg c_37, if_pos c_59])
                      exact hS _ e)
                   | (have e : nmo true x = none := by (simp only [nmo, Bool.false_eq_true, if_false, if_true]; rw [if_neg c_15, if_neg c_37, if_neg c_59])
                      exact hN e))
        · skip
          refine V.iconst_ (nI 1) d_Mo_nameOf_40 (by decide +kernel) ?_
          refine V.goto (tgt := 67) d_Mo_nameOf_41 (by decide) ?_
          refine V.iret d_Mo_nameOf_67 rfl (Nat.le_of_ble_eq_true rfl) (Nat.le_of_ble_eq_true rfl) ?_
          first
          | (cases wd with
             | false => first
               | exact absurd c_5 (by decide)
               | exact absurd c_27 (by decide)
               | exact absurd c_49 (by decide)
               | (have e : nmo false x = some 0 := by (simp only [nmo, Bool.false_eq_true, if_false, if_true]; rw [if_pos c_15])
                  exact hS _ e)
               | (have e : nmo false x = some 1 := by (simp only [nmo, Bool.false_eq_true, if_false, if_true]; rw [if_neg c_15, if_pos c_37])
                  exact hS _ e)
               | (have e : nmo false x = some 2 := by (simp only [nmo, Bool.false_eq_true, if_false, if_true]; rw [if_neg c_15, if_neg c_37, if_pos c_59])
                  exact hS _ e)
               | (have e : nmo false x = none := by (simp only [nmo, Bool.false_eq_true, if_false, if_true]; rw [if_neg c_15, if_neg c_37, if_neg c_59])
                  exact hN e)
             | true => first
               | exact absurd c_5 (by decide)
               | exact absurd c_27 (by decide)
               | exact absurd c_49 (by decide)
               | (have e : nmo true x = some 0 := by (simp only [nmo, Bool.false_eq_true, if_false, if_true]; rw [if_pos c_15])
                  exact hS _ e)
               | (have e : nmo true x = some 1 := by (simp only [nmo, Bool.false_eq_true, if_false, if_true]; rw [if_neg c_15, if_pos c_37])
                  exact hS _ e)
               | (have e : nmo true x = some 2 := by (simp only [nmo, Bool.false_eq_true, if_false, if_true]; rw [if_neg c_15, if_neg c_37, if_pos c_59])
                  exact hS _ e)
               | (have e : nmo true x = none := by (simp only [nmo, Bool.false_eq_true, if_false, if_true]; rw [if_neg c_15, if_neg c_37, if_neg c_59])
                  exact hN e))
      · skip
        refine V.bipush_ (nI 109) d_Mo_nameOf_30 (by decide +kernel) ?_
        refine V.goto (tgt := 37) d_Mo_nameOf_32 (by decide) ?_
        refine V.icmp_ne (tgt := 44) d_Mo_nameOf_37 (by decide) (fun c_37 => ?_) (fun c_37 => ?_)
        · skip
          refine V.iload_n d_Mo_nameOf_44 rfl ?_
          refine V.aload_n d_Mo_nameOf_45 rfl ?_
          refine V.get d_Mo_nameOf_46 f_Mo_83_Mo mo_o rfl ?_
          refine V.eqS (st' := .int (bi wd) :: _) rfl ?_
          refine V.ifeqB (tgt := 57) d_Mo_nameOf_49 (by decide) (fun c_49 => ?_) (fun c_49 => ?_)
          · skip
            refine V.bipush_ (nI 100) d_Mo_nameOf_57 (by decide +kernel) ?_
            refine V.icmp_ne (tgt := 66) d_Mo_nameOf_59 (by decide) (fun c_59 => ?_) (fun c_59 => ?_)
            · skip
              refine V.iconst_ (-1) d_Mo_nameOf_66 (by decide +kernel) ?_
              refine V.iret d_Mo_nameOf_67 rfl (Nat.le_of_ble_eq_true rfl) (Nat.le_of_ble_eq_true rfl) ?_
              first
              | (cases wd with
                 | false => first
                   | exact absurd c_5 (by decide)
                   | exact absurd c_27 (by decide)
                   | exact absurd c_49 (by decide)
                   | (have e : nmo false x = some 0 := by (simp only [nmo, Bool.false_eq_true, if_false, if_true]; rw [if_pos c_15])
                      exact hS _ e)
                   | (have e : nmo false x = some 1 := by (simp only [nmo, Bool.false_eq_true, if_false, if_true]; rw [if_neg c_15, if_pos c_37])
                      exact hS _ e)
                   | (have e : nmo false x = some 2 := by (simp only [nmo, Bool.false_eq_true, if_false, if_true]; rw [if_neg c_15, if_neg c_37, if_pos c_59])
                      exact hS _ e)
                   | (have e : nmo false x = none := by (simp only [nmo, Bool.false_eq_true, if_false, if_true]; rw [if_neg c_15, if_neg c_37, if_neg c_59])
                      exact hN e)
                 | true => first
                   | exact absurd c_5 (by decide)
                   | exact absurd c_27 (by decide)
                   | exact absurd c_49 (by decide)
                   | (have e : nmo true x = some 0 := by (simp only [nmo, Bool.false_eq_true, if_false, if_true]; rw [if_pos c_15])
                      exact hS _ e)
                   | (have e : nmo true x = some 1 := by (simp only [nmo, Bool.false_eq_true, if_false, if_true]; rw [if_neg c_15, if_pos c_37])
                      exact hS _ e)
                   | (have e : nmo true x = some 2 := by (simp only [nmo, Bool.false_eq_true, if_false, if_true]; rw [if_neg c_15, if_neg c_37, if_pos c_59])
                      exact hS _ e)
                   | (have e : nmo true x = none := by (simp only [nmo, Bool.false_eq_true, if_false, if_true]; rw [if_neg c_15, if_neg c_37, if_neg c_59])
                      exact hN e))
            · skip
              refine V.iconst_ (nI 2) d_Mo_nameOf_62 (by decide +kernel) ?_
              refine V.goto (tgt := 67) d_Mo_nameOf_63 (by decide) ?_
              refine V.iret d_Mo_nameOf_67 rfl (Nat.le_of_ble_eq_true rfl) (Nat.le_of_ble_eq_true rfl) ?_
              first
              | (cases wd with
                 | false => first
                   | exact absurd c_5 (by decide)
                   | exact absurd c_27 (by decide)
                   | exact absurd c_49 (by decide)
                   | (have e : nmo false x = some 0 := by (simp only [nmo, Bool.false_eq_true, if_false, if_true]; rw [if_pos c_15])
                      exact hS _ e)
                   | (have e : nmo false x = some 1 := by (simp only [nmo, Bool.false_eq_true, if_false, if_true]; rw [if_neg c_15, if_pos c_37])
                      exact hS _ e)
                   | (have e : nmo false x = some 2 := by (simp only [nmo, Bool.false_eq_true, if_false, if_true]; rw [if_neg c_15, if_neg c_37, if_pos c_59])
                      exact hS _ e)
                   | (have e : nmo false x = none := by (simp only [nmo, Bool.false_eq_true, if_false, if_true]; rw [if_neg c_15, if_neg c_37, if_neg c_59])
                      exact hN e)
                 | true => first
                   | exact absurd c_5 (by decide)
                   | exact absurd c_27 (by decide)
                   | exact absurd c_49 (by decide)
                   | (have e : nmo true x = some 0 := by (simp only [nmo, Bool.false_eq_true, if_false, if_true]; rw [if_pos c_15])
                      exact hS _ e)
                   | (have e : nmo true x = some 1 := by (simp only [nmo, Bool.false_eq_true, if_false, if_true]; rw [if_neg c_15, if_pos c_37])
                      exact hS _ e)
                   | (have e : nmo true x = some 2 := by (simp only [nmo, Bool.false_eq_true, if_false, if_true]; rw [if_neg c_15, if_neg c_37, if_pos c_59])
                      exact hS _ e)
                   | (have e : nmo true x = none := by (simp only [nmo, Bool.false_eq_true, if_false, if_true]; rw [if_neg c_15, if_neg c_37, if_neg c_59])
                      exact hN e))
          · skip
            refine V.bipush_ (nI 112) d_Mo_nameOf_52 (by decide +kernel) ?_
            refine V.goto (tgt := 59) d_Mo_nameOf_54 (by decide) ?_
            refine V.icmp_ne (tgt := 66) d_Mo_nameOf_59 (by decide) (fun c_59 => ?_) (fun c_59 => ?_)
            · skip
              refine V.iconst_ (-1) d_Mo_nameOf_66 (by decide +kernel) ?_
              refine V.iret d_Mo_nameOf_67 rfl (Nat.le_of_ble_eq_true rfl) (Nat.le_of_ble_eq_true rfl) ?_
              first
              | (cases wd with
                 | false => first
                   | exact absurd c_5 (by decide)
                   | exact absurd c_27 (by decide)
                   | exact absurd c_49 (by decide)
                   | (have e : nmo false x = some 0 := by (simp only [nmo, Bool.false_eq_true, if_false, if_true]; rw [if_pos c_15])
                      exact hS _ e)
                   | (have e : nmo false x = some 1 := by (simp only [nmo, Bool.false_eq_true, if_false, if_true]; rw [if_neg c_15, if_pos c_37])
                      exact hS _ e)
                   | (have e : nmo false x = some 2 := by (simp only [nmo, Bool.false_eq_true, if_false, if_true]; rw [if_neg c_15, if_neg c_37, if_pos c_59])
                      exact hS _ e)
                   | (have e : nmo false x = none := by (simp only [nmo, Bool.false_eq_true, if_false, if_true]; rw [if_neg c_15, if_neg c_37, if_neg c_59])
                      exact hN e)
                 | true => first
                   | exact absurd c_5 (by decide)
                   | exact absurd c_27 (by decide)
                   | exact absurd c_49 (by decide)
                   | (have e : nmo true x = some 0 := by (simp only [nmo, Bool.false_eq_true, if_false, if_true]; rw [if_pos c_15])
                      exact hS _ e)
                   | (have e : nmo true x = some 1 := by (simp only [nmo, Bool.false_eq_true, if_false, if_true]; rw [if_neg c_15, if_pos c_37])
                      exact hS _ e)
                   | (have e : nmo true x = some 2 := by (simp only [nmo, Bool.false_eq_true, if_false, if_true]; rw [if_neg c_15, if_neg c_37, if_pos c_59])
                      exact hS _ e)
                   | (have e : nmo true x = none := by (simp only [nmo, Bool.false_eq_true, if_false, if_true]; rw [if_neg c_15, if_neg c_37, if_neg c_59])
                      exact hN e))
            · skip
              refine V.iconst_ (nI 2) d_Mo_nameOf_62 (by decide +kernel) ?_
              refine V.goto (tgt := 67) d_Mo_nameOf_63 (by decide) ?_
              refine V.iret d_Mo_nameOf_67 rfl (Nat.le_of_ble_eq_true rfl) (Nat.le_of_ble_eq_true rfl) ?_
              first
              | (cases wd with
                 | false => first
                   | exact absurd c_5 (by decide)
                   | exact absurd c_27 (by decide)
                   | exact absurd c_49 (by decide)
                   | (have e : nmo false x = some 0 := by (simp only [nmo, Bool.false_eq_true, if_false, if_true]; rw [if_pos c_15])
                      exact hS _ e)
                   | (have e : nmo false x = some 1 := by (simp only [nmo, Bool.false_eq_true, if_false, if_true]; rw [if_neg c_15, if_pos c_37])
                      exact hS _ e)
                   | (have e : nmo false x = some 2 := by (simp only [nmo, Bool.false_eq_true, if_false, if_true]; rw [if_neg c_15, if_neg c_37, if_pos c_59])
                      exact hS _ e)
                   | (have e : nmo false x = none := by (simp only [nmo, Bool.false_eq_true, if_false, if_true]; rw [if_neg c_15, if_neg c_37, if_neg c_59])
                      exact hN e)
                 | true => first
                   | exact absurd c_5 (by decide)
                   | exact absurd c_27 (by decide)
                   | exact absurd c_49 (by decide)
                   | (have e : nmo true x = some 0 := by (simp only [nmo, Bool.false_eq_true, if_false, if_true]; rw [if_pos c_15])
                      exact hS _ e)
                   | (have e : nmo true x = some 1 := by (simp only [nmo, Bool.false_eq_true, if_false, if_true]; rw [if_neg c_15, if_pos c_37])
                      exact hS _ e)
                   | (have e : nmo true x = some 2 := by (simp only [nmo, Bool.false_eq_true, if_false, if_true]; rw [if_neg c_15, if_neg c_37, if_pos c_59])
                      exact hS _ e)
                   | (have e : nmo true x = none := by (simp only [nmo, Bool.false_eq_true, if_false, if_true]; rw [if_neg c_15, if_neg c_37, if_neg c_59])
                      exact hN e))
        · skip
          refine V.iconst_ (nI 1) d_Mo_nameOf_40 (by decide +kernel) ?_
          refine V.goto (tgt := 67) d_Mo_nameOf_41 (by decide) ?_
          refine V.iret d_Mo_nameOf_67 rfl (Nat.le_of_ble_eq_true rfl) (Nat.le_of_ble_eq_true rfl) ?_
          first
          | (cases wd with
             | false => first
               | exact absurd c_5 (by decide)
               | exact absurd c_27 (by decide)
               | exact absurd c_49 (by decide)
               | (have e : nmo false x = some 0 := by (simp only [nmo, Bool.false_eq_true, if_false, if_true]; rw [if_pos c_15])
                  exact hS _ e)
               | (have e : nmo false x = some 1 := by (simp only [nmo, Bool.false_eq_true, if_false, if_true]; rw [if_neg c_15, if_pos c_37])
                  exact hS _ e)
               | (have e : nmo false x = some 2 := by (simp only [nmo, Bool.false_eq_true, if_false, if_true]; rw [if_neg c_15, if_neg c_37, if_pos c_59])
                  exact hS _ e)
               | (have e : nmo false x = none := by (simp only [nmo, Bool.false_eq_true, if_false, if_true]; rw [if_neg c_15, if_neg c_37, if_neg c_59])
                  exact hN e)
             | true => first
               | exact absurd c_5 (by decide)
               | exact absurd c_27 (by decide)
               | exact absurd c_49 (by decide)
               | (have e : nmo true x = some 0 := by (simp only [nmo, Bool.false_eq_true, if_false, if_true]; rw [if_pos c_15])
                  exact hS _ e)
               | (have e : nmo true x = some 1 := by (simp only [nmo, Bool.false_eq_true, if_false, if_true]; rw [if_neg c_15, if_pos c_37])
                  exact hS _ e)
               | (have e : nmo true x = some 2 := by (simp only [nmo, Bool.false_eq_true, if_false, if_true]; rw [if_neg c_15, if_neg c_37, if_pos c_59])
                  exact hS _ e)
               | (have e : nmo true x = none := by (simp only [nmo, Bool.false_eq_true, if_false, if_true]; rw [if_neg c_15, if_neg c_37, if_neg c_59])
                  exact hN e))
    · skip
      refine V.iconst_ (nI 0) d_Mo_nameOf_18 (by decide +kernel) ?_
      refine V.goto (tgt := 67) d_Mo_nameOf_19 (by decide) ?_
      refine V.iret d_Mo_nameOf_67 rfl (Nat.le_of_ble_eq_true rfl) (Nat.le_of_ble_eq_true rfl) ?_
      first
      | (cases wd with
         | false => first
           | exact absurd c_5 (by decide)
           | exact absurd c_27 (by decide)
           | exact absurd c_49 (by decide)
           | (have e : nmo false x = some 0 := by (simp only [nmo, Bool.false_eq_true, if_false, if_true]; rw [if_pos c_15])
              exact hS _ e)
           | (have e : nmo false x = some 1 := by (simp only [nmo, Bool.false_eq_true, if_false, if_true]; rw [if_neg c_15, if_pos c_37])
              exact hS _ e)
           | (have e : nmo false x = some 2 := by (simp only [nmo, Bool.false_eq_true, if_false, if_true]; rw [if_neg c_15, if_neg c_37, if_pos c_59])
              exact hS _ e)
           | (have e : nmo false x = none := by (simp only [nmo, Bool.false_eq_true, if_false, if_true]; rw [if_neg c_15, if_neg c_37, if_neg c_59])
              exact hN e)
         | true => first
           | exact absurd c_5 (by decide)
           | exact absurd c_27 (by decide)
           | exact absurd c_49 (by decide)
           | (have e : nmo true x = some 0 := by (simp only [nmo, Bool.false_eq_true, if_false, if_true]; rw [if_pos c_15])
              exact hS _ e)
           | (have e : nmo true x = some 1 := by (simp only [nmo, Bool.false_eq_true, if_false, if_true]; rw [if_neg c_15, if_pos c_37])
              exact hS _ e)
           | (have e : nmo true x = some 2 := by (simp only [nmo, Bool.false_eq_true, if_false, if_true]; rw [if_neg c_15, if_neg c_37, if_pos c_59])
              exact hS _ e)
           | (have e : nmo true x = none := by (simp only [nmo, Bool.false_eq_true, if_false, if_true]; rw [if_neg c_15, if_neg c_37, if_neg c_59])
              exact hN e))
