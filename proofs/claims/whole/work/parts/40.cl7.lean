abbrev M_Text_isDigit : MD := (⟨"FelledByNames$Text", "isDigit", "(I)Z"⟩, prog_9_method_10_code, 1, (some .boolean), fun _ => True)
theorem d_Text_isDigit_0 : decode prog_9_method_10_code 0 = .ok (.iload_n 0, 1) := by decide +kernel
theorem d_Text_isDigit_1 : decode prog_9_method_10_code 1 = .ok (.bipush 48, 2) := by decide +kernel
theorem d_Text_isDigit_3 : decode prog_9_method_10_code 3 = .ok (.if_icmp .lt 13, 3) := by decide +kernel
theorem d_Text_isDigit_16 : decode prog_9_method_10_code 16 = .ok (.iconst 0, 1) := by decide +kernel
theorem d_Text_isDigit_17 : decode prog_9_method_10_code 17 = .ok (.ireturn, 1) := by decide +kernel
theorem d_Text_isDigit_6 : decode prog_9_method_10_code 6 = .ok (.iload_n 0, 1) := by decide +kernel
theorem d_Text_isDigit_7 : decode prog_9_method_10_code 7 = .ok (.bipush 57, 2) := by decide +kernel
theorem d_Text_isDigit_9 : decode prog_9_method_10_code 9 = .ok (.if_icmp .gt 7, 3) := by decide +kernel
theorem d_Text_isDigit_12 : decode prog_9_method_10_code 12 = .ok (.iconst 1, 1) := by decide +kernel
theorem d_Text_isDigit_13 : decode prog_9_method_10_code 13 = .ok (.goto 4, 3) := by decide +kernel
set_option maxRecDepth 100000 in
theorem c_Text_isDigit {x : Int32} {l : Launch} {d n : Nat} {h : HP} {Q : QT} (hQ : Q (some (.int (bi (wi x (nI 48) (nI 57))))) n h) : Ct l M_Text_isDigit d 0 0 [.int x] n h Q := by
  refine Ct.of (fun _ => trivial) (by decide) (Nat.le_of_ble_eq_true rfl) ?_
  refine V.iload_n d_Text_isDigit_0 rfl ?_
  refine V.bipush_ (nI 48) d_Text_isDigit_1 (by decide +kernel) ?_
  refine V.icmp_lt (tgt := 16) d_Text_isDigit_3 (by decide) (fun c_3 => ?_) (fun c_3 => ?_)
  · skip
    refine V.iconst_ (nI 0) d_Text_isDigit_16 (by decide +kernel) ?_
    refine V.zret d_Text_isDigit_17 rfl rfl (Nat.le_of_ble_eq_true rfl) (Nat.le_of_ble_eq_true rfl) ?_
    first
    | exact Qb (b' := true) hQ (by unfold wi; rw [decide_eq_true (Int32.not_lt.mp c_3), decide_eq_true (Int32.not_lt.mp c_9)]; rfl)
    | exact Qb (b' := false) hQ (by unfold wi; rw [decide_eq_false (fun z => Int32.not_lt.mpr z c_9), Bool.and_false])
    | exact Qb (b' := false) hQ (by unfold wi; rw [decide_eq_false (fun z => Int32.not_lt.mpr z c_3), Bool.false_and])
  · skip
    refine V.iload_n d_Text_isDigit_6 rfl ?_
    refine V.bipush_ (nI 57) d_Text_isDigit_7 (by decide +kernel) ?_
    refine V.icmp_gt (tgt := 16) d_Text_isDigit_9 (by decide) (fun c_9 => ?_) (fun c_9 => ?_)
    · skip
      refine V.iconst_ (nI 0) d_Text_isDigit_16 (by decide +kernel) ?_
      refine V.zret d_Text_isDigit_17 rfl rfl (Nat.le_of_ble_eq_true rfl) (Nat.le_of_ble_eq_true rfl) ?_
      first
      | exact Qb (b' := true) hQ (by unfold wi; rw [decide_eq_true (Int32.not_lt.mp c_3), decide_eq_true (Int32.not_lt.mp c_9)]; rfl)
      | exact Qb (b' := false) hQ (by unfold wi; rw [decide_eq_false (fun z => Int32.not_lt.mpr z c_9), Bool.and_false])
      | exact Qb (b' := false) hQ (by unfold wi; rw [decide_eq_false (fun z => Int32.not_lt.mpr z c_3), Bool.false_and])
    · skip
      refine V.iconst_ (nI 1) d_Text_isDigit_12 (by decide +kernel) ?_
      refine V.goto (tgt := 17) d_Text_isDigit_13 (by decide) ?_
      refine V.zret d_Text_isDigit_17 rfl rfl (Nat.le_of_ble_eq_true rfl) (Nat.le_of_ble_eq_true rfl) ?_
      first
      | exact Qb (b' := true) hQ (by unfold wi; rw [decide_eq_true (Int32.not_lt.mp c_3), decide_eq_true (Int32.not_lt.mp c_9)]; rfl)
      | exact Qb (b' := false) hQ (by unfold wi; rw [decide_eq_false (fun z => Int32.not_lt.mpr z c_9), Bool.and_false])
      | exact Qb (b' := false) hQ (by unfold wi; rw [decide_eq_false (fun z => Int32.not_lt.mpr z c_3), Bool.false_and])
abbrev M_Text_signsOf : MD := (⟨"FelledByNames$Text", "signsOf", "(I)Ljava/lang/String;"⟩, prog_9_method_6_code, 1, (Option.some (.object "java/lang/String")), fun _ => True)
theorem d_Text_signsOf_0 : decode prog_9_method_6_code 0 = .ok (.iload_n 0, 1) := by decide +kernel
theorem d_Text_signsOf_1 : decode prog_9_method_6_code 1 = .ok (.tableswitch 43 0 3 #[31, 34, 37, 40], 31) := by decide +kernel
theorem d_Text_signsOf_32 : decode prog_9_method_6_code 32 = .ok (.ldc 95, 2) := by decide +kernel
theorem d_Text_signsOf_34 : decode prog_9_method_6_code 34 = .ok (.areturn, 1) := by decide +kernel
theorem d_Text_signsOf_35 : decode prog_9_method_6_code 35 = .ok (.ldc 97, 2) := by decide +kernel
theorem d_Text_signsOf_37 : decode prog_9_method_6_code 37 = .ok (.areturn, 1) := by decide +kernel
theorem d_Text_signsOf_38 : decode prog_9_method_6_code 38 = .ok (.ldc 99, 2) := by decide +kernel
theorem d_Text_signsOf_40 : decode prog_9_method_6_code 40 = .ok (.areturn, 1) := by decide +kernel
theorem d_Text_signsOf_41 : decode prog_9_method_6_code 41 = .ok (.ldc 101, 2) := by decide +kernel
theorem d_Text_signsOf_43 : decode prog_9_method_6_code 43 = .ok (.areturn, 1) := by decide +kernel
theorem d_Text_signsOf_44 : decode prog_9_method_6_code 44 = .ok (.ldc 103, 2) := by decide +kernel
theorem d_Text_signsOf_46 : decode prog_9_method_6_code 46 = .ok (.areturn, 1) := by decide +kernel
set_option maxRecDepth 100000 in
theorem c_Text_signsOf {k : Nat} {l : Launch} {d n : Nat} {h : HP} {Q : QT} (hk : k < 5) (hQ : Q (some (.float (UInt32.ofNat (4 + k)))) n h) : Ct l M_Text_signsOf d 0 0 [.int (nI k)] n h Q := by
  refine Ct.of (fun _ => trivial) (by decide) (Nat.le_of_ble_eq_true rfl) ?_
  refine V.iload_n d_Text_signsOf_0 rfl ?_
  rcases (show k = 0 ∨ k = 1 ∨ k = 2 ∨ k = 3 ∨ k = 4 by omega) with rfl | rfl | rfl | rfl | rfl
  · skip
    refine V.tabIn (tgt := 32) (off := 31) d_Text_signsOf_1 (by decide +kernel) (by decide +kernel) (by decide +kernel) (by decide) ?_
    refine V.ldcS (i := 4) d_Text_signsOf_32 rfl rfl rfl (by decide) ?_
    refine V.aret d_Text_signsOf_34 rfl (Or.inl ⟨_, rfl⟩) (Or.inr (Or.inr ⟨_, rfl⟩)) (Nat.le_of_ble_eq_true rfl) (Nat.le_of_ble_eq_true rfl) ?_
    exact hQ
  · skip
    refine V.tabIn (tgt := 35) (off := 34) d_Text_signsOf_1 (by decide +kernel) (by decide +kernel) (by decide +kernel) (by decide) ?_
    refine V.ldcS (i := 5) d_Text_signsOf_35 rfl rfl rfl (by decide) ?_
    refine V.aret d_Text_signsOf_37 rfl (Or.inl ⟨_, rfl⟩) (Or.inr (Or.inr ⟨_, rfl⟩)) (Nat.le_of_ble_eq_true rfl) (Nat.le_of_ble_eq_true rfl) ?_
    exact hQ
  · skip
    refine V.tabIn (tgt := 38) (off := 37) d_Text_signsOf_1 (by decide +kernel) (by decide +kernel) (by decide +kernel) (by decide) ?_
    refine V.ldcS (i := 6) d_Text_signsOf_38 rfl rfl rfl (by decide) ?_
    refine V.aret d_Text_signsOf_40 rfl (Or.inl ⟨_, rfl⟩) (Or.inr (Or.inr ⟨_, rfl⟩)) (Nat.le_of_ble_eq_true rfl) (Nat.le_of_ble_eq_true rfl) ?_
    exact hQ
  · skip
    refine V.tabIn (tgt := 41) (off := 40) d_Text_signsOf_1 (by decide +kernel) (by decide +kernel) (by decide +kernel) (by decide) ?_
    refine V.ldcS (i := 7) d_Text_signsOf_41 rfl rfl rfl (by decide) ?_
    refine V.aret d_Text_signsOf_43 rfl (Or.inl ⟨_, rfl⟩) (Or.inr (Or.inr ⟨_, rfl⟩)) (Nat.le_of_ble_eq_true rfl) (Nat.le_of_ble_eq_true rfl) ?_
    exact hQ
  · skip
    refine V.tabOut (tgt := 44) d_Text_signsOf_1 (by decide +kernel) (by decide) ?_
    refine V.ldcS (i := 8) d_Text_signsOf_44 rfl rfl rfl (by decide) ?_
    refine V.aret d_Text_signsOf_46 rfl (Or.inl ⟨_, rfl⟩) (Or.inr (Or.inr ⟨_, rfl⟩)) (Nat.le_of_ble_eq_true rfl) (Nat.le_of_ble_eq_true rfl) ?_
    exact hQ
theorem i2c_b : ∀ c, c < 256 → ((nI c).toUInt32 % 65536).toInt32 = nI c := by decide +kernel
theorem zT_ly {Z : Nat → Nat → Int32} {u m op v : Nat} {s : PS} : zT Z u (ly v s) m op = zT Z u s m op := by
  have e1 : (ly v s).1 = s.1 := ly_1
  have e2 : (ly v s).2.1 = s.2.1 := by
    unfold ly
    split
    · rfl
    · next h => exact (Bool.eq_false_iff.mpr h).symm
  unfold zT
  rw [e1, e2]
theorem RL_ly {v : Nat} {s : PS} {L L2 : List Nat} (hR : RL s L) (hl : s.2.1 = false → s.2.2.length < 50) (h1 : L.length < 50 → L2 = L ++ [v]) (h2 : L2.length ≤ 50) : RL (ly v s) L2 := by
  refine ⟨fun h => ?_, h2⟩
  unfold ly at h ⊢
  by_cases hf : s.2.1 = true
  · rw [if_pos hf] at h; rw [hf] at h; cases h
  · rw [if_neg hf]
    have hf' : s.2.1 = false := by simpa using hf
    have e := hR.1 hf'
    rw [h1 (by rw [e]; exact hl hf'), e]
theorem RL_adv {s : PS} {L : List Nat} (hR : RL s L) : RL (adv s) L := hR
theorem RL_wg {s : PS} {L : List Nat} (hR : RL s L) : RL (wg s) L := ⟨fun h => (by cases h), hR.2⟩
theorem c_draft {l : Launch} {R W Z : Nat → Nat → Int32} {T : Nat → Nat → Nat} {kn : Kn} {h0 : HP} {u op : Nat} {d n : Nat} {Q : QT} {s : PS} {L : List Nat} {v : Nat} (hu : u < 2) (hR : RL s L) (hl : s.2.1 = false → s.2.2.length < 50) (hQ : ∀ L2, RL (ly v s) L2 → Q none n (co (uA R (6 + 6 * u + 1) (wrt (R (6 + 6 * u + 1)) 0 (L2))) W (zT Z u (ly v s) (L2).length op) T kn h0)) : Ct l M_Row_add d 0 0 [.ref (6 + 6 * u), .int (nI v)] n (co (uA R (6 + 6 * u + 1) (wrt (R (6 + 6 * u + 1)) 0 (L))) W (zT Z u (s) (L).length op) T kn h0) Q := by
  have hd := tx_ds u hu
  have hda := txa_ds u hu
  by_cases hL : L.length < 50
  · refine c_Row_add (a := 6 + 6 * u) (N := 50) (sz := L.length) hd.2.2.2.1 hda.2 zT_r hR.2 (by decide) (fun _ => ?_) (fun z => absurd z (by omega))
    have h := hQ (L ++ [v]) (RL_ly hR hl (fun _ => rfl) (by rw [List.length_append]; exact hL))
    rw [zT_ly] at h
    rw [uA_s, uA_uu, zT_m]
    have e : upd (wrt (R (6 + 6 * u + 1)) 0 L) L.length (nI v) = wrt (R (6 + 6 * u + 1)) 0 (L ++ [v]) := by
      rw [wrt_cat, Nat.zero_add]
      rfl
    rw [e]
    rw [List.length_append] at h
    exact h
  · refine c_Row_add (a := 6 + 6 * u) (N := 50) (sz := L.length) hd.2.2.2.1 hda.2 zT_r hR.2 (by decide) (fun z => absurd z hL) (fun _ => ?_)
    have hf : s.2.1 = true := by
      cases e : s.2.1 with
      | true => rfl
      | false => exact absurd (hl e) (by rw [← hR.1 e]; exact hL)
    have h := hQ L (RL_ly hR hl (fun z => absurd z hL) hR.2)
    rw [zT_ly] at h
    exact h
abbrev M_Text_taken : MD := (⟨"FelledByNames$Text", "taken", "(Ljava/lang/String;)I"⟩, prog_9_method_8_code, 3, (some .int), fun _ => True)
theorem d_Text_taken_0 : decode prog_9_method_8_code 0 = .ok (.aload_n 0, 1) := by decide +kernel
theorem d_Text_taken_1 : decode prog_9_method_8_code 1 = .ok (.getfield 41, 3) := by decide +kernel
theorem f_Text_41_Text : fok "FelledByNames$Text" 41 3 1 := ⟨R_Text, F_Text, 11, "FelledByNames$Text", rfl, i_Text, by decide, tm 70 (by decide +kernel) rfl, Or.inl rfl, t_Text, t_Text_ok, n_Text⟩
theorem d_Text_taken_4 : decode prog_9_method_8_code 4 = .ok (.aload_n 0, 1) := by decide +kernel
theorem d_Text_taken_5 : decode prog_9_method_8_code 5 = .ok (.getfield 27, 3) := by decide +kernel
theorem f_Text_27_Text : fok "FelledByNames$Text" 27 3 7 := ⟨R_Text, F_Text, 11, "FelledByNames$Text", rfl, i_Text, by decide, tm 76 (by decide +kernel) rfl, Or.inl rfl, t_Text, t_Text_ok, n_Text⟩
theorem d_Text_taken_8 : decode prog_9_method_8_code 8 = .ok (.invokevirtual 116, 3) := by decide +kernel
theorem kB_Row_get : kB M_Row_get 1 := ⟨tm 2 (by decide +kernel) rfl, tm 308 (by decide +kernel) rfl, ⟨by decide, by decide, by decide +kernel⟩, by decide⟩
theorem k_Text_116_Row_get_RowV : kV "FelledByNames$Text" 116 1 M_Row_get 1 := ⟨kB_Row_get, tm 303 (by decide +kernel) rfl, tm 304 (by decide +kernel) rfl, tm 305 (by decide +kernel) rfl, _, rfl, rfl⟩
theorem d_Text_taken_11 : decode prog_9_method_8_code 11 = .ok (.istore_n 2, 1) := by decide +kernel
theorem d_Text_taken_12 : decode prog_9_method_8_code 12 = .ok (.aload_n 0, 1) := by decide +kernel
theorem d_Text_taken_13 : decode prog_9_method_8_code 13 = .ok (.getfield 34, 3) := by decide +kernel
theorem f_Text_34_Text : fok "FelledByNames$Text" 34 3 9 := ⟨R_Text, F_Text, 11, "FelledByNames$Text", rfl, i_Text, by decide, tm 78 (by decide +kernel) rfl, Or.inl rfl, t_Text, t_Text_ok, n_Text⟩
theorem d_Text_taken_16 : decode prog_9_method_8_code 16 = .ok (.ifCond .ge 16, 3) := by decide +kernel
theorem d_Text_taken_32 : decode prog_9_method_8_code 32 = .ok (.iconst (-1), 1) := by decide +kernel
theorem d_Text_taken_33 : decode prog_9_method_8_code 33 = .ok (.ireturn, 1) := by decide +kernel
set_option maxRecDepth 100000 in
theorem c_Text_takenF {l : Launch} {R W Z : Nat → Nat → Int32} {T : Nat → Nat → Nat} {kn : Kn} {h0 : HP} {u sz op : Nat} {d n : Nat} {Q : QT} {s : PS} {L : List Nat} {i : Nat} (hi4 : 4 ≤ i) (hi : i < 10) (hu : u < 2) (hsz : sz ≤ 50) (hz : Z 1 1 = nI sz) (hB : ∀ j, j < sz → ∃ c, c < 256 ∧ R 2 j = nI c) (h1 : s.1 ≤ sz) (hf : s.2.1 = true) (hF : sgT i (hr (R 2) sz s) = false → Q (some (.int (-1))) n (co (uA R (6 + 6 * u + 1) (wrt (R (6 + 6 * u + 1)) 0 (L))) W (zT Z u (s) (L).length op) T kn h0)) : Ct l M_Text_taken (d + 4) 0 0 [.ref (3 + 6 * u), .float (UInt32.ofNat i)] n (co (uA R (6 + 6 * u + 1) (wrt (R (6 + 6 * u + 1)) 0 (L))) W (zT Z u (s) (L).length op) T kn h0) Q := by
  refine Ct.of (fun _ => trivial) (by decide) (Nat.le_of_ble_eq_true rfl) ?_
  refine V.aload_n d_Text_taken_0 rfl ?_
  refine V.get d_Text_taken_1 f_Text_41_Text (co_s (sc_tx (tx_ds u hu).1)) rfl ?_
  refine V.aload_n d_Text_taken_4 rfl ?_
  refine V.get d_Text_taken_5 f_Text_27_Text (co_s (sc_tx (tx_ds u hu).1)) rfl ?_
  refine V.top (y := nI (s).1) zT_7 ?_
  refine V.callV1 d_Text_taken_8 k_Text_116_Row_get_RowV (co_s (sc_rw rfl)) (Nat.le_of_ble_eq_true rfl) (by omega) (by omega) (c_Row_get (a := 1) (N := 50) (sz := sz) rfl rfl (zT_1.trans hz) hsz (by decide) ?_)
  refine V.istore_n d_Text_taken_11 (by decide) ?_
  refine V.aload_n d_Text_taken_12 rfl ?_
  refine V.get d_Text_taken_13 f_Text_34_Text (co_s (sc_tx (tx_ds u hu).1)) rfl ?_
  refine V.if_ge (tgt := 32) d_Text_taken_16 (by decide) (fun c_16 => ?_) (fun c_16 => ?_)
  · skip
    refine V.iconst_ (-1) d_Text_taken_32 (by decide +kernel) ?_
    refine V.iret d_Text_taken_33 rfl (Nat.le_of_ble_eq_true rfl) (Nat.le_of_ble_eq_true rfl) ?_
    exact hF (by rw [hr_f hf]; exact sgT_m1 i hi hi4)
  · skip
    exact absurd ((zT_9i (by omega)).mpr hf) c_16
theorem d_Text_taken_19 : decode prog_9_method_8_code 19 = .ok (.iload_n 2, 1) := by decide +kernel
theorem d_Text_taken_20 : decode prog_9_method_8_code 20 = .ok (.ifCond .lt 12, 3) := by decide +kernel
theorem d_Text_taken_23 : decode prog_9_method_8_code 23 = .ok (.aload_n 1, 1) := by decide +kernel
theorem d_Text_taken_24 : decode prog_9_method_8_code 24 = .ok (.iload_n 2, 1) := by decide +kernel
theorem d_Text_taken_25 : decode prog_9_method_8_code 25 = .ok (.i2c, 1) := by decide +kernel
theorem d_Text_taken_26 : decode prog_9_method_8_code 26 = .ok (.invokevirtual 120, 3) := by decide +kernel
theorem kB_Str_indexOf : kB M_Str_indexOf 1 := ⟨tm 7 (by decide +kernel) rfl, tm 319 (by decide +kernel) rfl, ⟨by decide, by decide, by decide +kernel⟩, by decide⟩
theorem k_Text_120_Str_indexOfK : kK "FelledByNames$Text" 120 M_Str_indexOf 1 := ⟨kB_Str_indexOf, tm 316 (by decide +kernel) rfl, tm 317 (by decide +kernel) rfl, tm 318 (by decide +kernel) rfl, rfl⟩
theorem d_Text_taken_29 : decode prog_9_method_8_code 29 = .ok (.ifCond .ge 5, 3) := by decide +kernel
theorem d_Text_taken_34 : decode prog_9_method_8_code 34 = .ok (.aload_n 0, 1) := by decide +kernel
theorem d_Text_taken_35 : decode prog_9_method_8_code 35 = .ok (.dup, 1) := by decide +kernel
theorem d_Text_taken_36 : decode prog_9_method_8_code 36 = .ok (.getfield 27, 3) := by decide +kernel
theorem d_Text_taken_39 : decode prog_9_method_8_code 39 = .ok (.iconst 1, 1) := by decide +kernel
theorem d_Text_taken_40 : decode prog_9_method_8_code 40 = .ok (.iadd, 1) := by decide +kernel
theorem d_Text_taken_41 : decode prog_9_method_8_code 41 = .ok (.putfield 27, 3) := by decide +kernel
theorem fp_Text_7 : fpk 3 7 (.int) := ⟨_, _, _, rfl, rfl, by decide +kernel⟩
theorem d_Text_taken_44 : decode prog_9_method_8_code 44 = .ok (.iload_n 2, 1) := by decide +kernel
theorem d_Text_taken_45 : decode prog_9_method_8_code 45 = .ok (.ireturn, 1) := by decide +kernel
set_option maxRecDepth 100000 in
theorem c_Text_takenN {l : Launch} {R W Z : Nat → Nat → Int32} {T : Nat → Nat → Nat} {kn : Kn} {h0 : HP} {u sz op : Nat} {d n : Nat} {Q : QT} {s : PS} {L : List Nat} {i : Nat} (hi4 : 4 ≤ i) (hi : i < 10) (hu : u < 2) (hsz : sz ≤ 50) (hz : Z 1 1 = nI sz) (hB : ∀ j, j < sz → ∃ c, c < 256 ∧ R 2 j = nI c) (h1 : s.1 ≤ sz) (hf : s.2.1 = false) (hT : sgT i (hr (R 2) sz s) = true → Q (some (.int (hr (R 2) sz s))) n (co (uA R (6 + 6 * u + 1) (wrt (R (6 + 6 * u + 1)) 0 (L))) W (zT Z u (adv s) (L).length op) T kn h0)) (hF : sgT i (hr (R 2) sz s) = false → Q (some (.int (-1))) n (co (uA R (6 + 6 * u + 1) (wrt (R (6 + 6 * u + 1)) 0 (L))) W (zT Z u (s) (L).length op) T kn h0)) : Ct l M_Text_taken (d + 4) 0 0 [.ref (3 + 6 * u), .float (UInt32.ofNat i)] n (co (uA R (6 + 6 * u + 1) (wrt (R (6 + 6 * u + 1)) 0 (L))) W (zT Z u (s) (L).length op) T kn h0) Q := by
  refine Ct.of (fun _ => trivial) (by decide) (Nat.le_of_ble_eq_true rfl) ?_
  refine V.aload_n d_Text_taken_0 rfl ?_
  refine V.get d_Text_taken_1 f_Text_41_Text (co_s (sc_tx (tx_ds u hu).1)) rfl ?_
  refine V.aload_n d_Text_taken_4 rfl ?_
  refine V.get d_Text_taken_5 f_Text_27_Text (co_s (sc_tx (tx_ds u hu).1)) rfl ?_
  refine V.top (y := nI (s).1) zT_7 ?_
  refine V.callV1 d_Text_taken_8 k_Text_116_Row_get_RowV (co_s (sc_rw rfl)) (Nat.le_of_ble_eq_true rfl) (by omega) (by omega) (c_Row_get (a := 1) (N := 50) (sz := sz) rfl rfl (zT_1.trans hz) hsz (by decide) ?_)
  refine V.top (y := hr (R 2) sz (s)) (by rw [uA_n (show 1 + 1 ≠ 6 + 6 * u + 1 by omega)]; exact rgt_hr hsz (by omega) hf) ?_
  refine V.istore_n d_Text_taken_11 (by decide) ?_
  refine V.aload_n d_Text_taken_12 rfl ?_
  refine V.get d_Text_taken_13 f_Text_34_Text (co_s (sc_tx (tx_ds u hu).1)) rfl ?_
  refine V.if_ge (tgt := 32) d_Text_taken_16 (by decide) (fun c_16 => ?_) (fun c_16 => ?_)
  · skip
    exact absurd c_16 (by rw [zT_9f hf]; decide)
  · skip
    refine V.iload_n d_Text_taken_19 rfl ?_
    refine V.if_lt (tgt := 32) d_Text_taken_20 (by decide) (fun c_20 => ?_) (fun c_20 => ?_)
    · skip
      refine V.iconst_ (-1) d_Text_taken_32 (by decide +kernel) ?_
      refine V.iret d_Text_taken_33 rfl (Nat.le_of_ble_eq_true rfl) (Nat.le_of_ble_eq_true rfl) ?_
      first
      | exact hF (by rw [ec]; exact Bool.eq_false_iff.mpr (fun z => c_29 ((sgT_ix i hi hi4 c hc).mp z)))
      | (rcases hr_by (f := R 2) (sz := sz) (s := s) hB with e | ⟨c, hc, ec⟩
         · exact hF (by rw [e]; exact sgT_m1 i hi hi4)
         · exact absurd c_20 (by rw [ec]; exact Int32.not_lt.mpr ((nI_leI (a := 0) (by decide) (by omega)).mpr (Nat.zero_le _))))
    · skip
      obtain ⟨c, hc, ec⟩ := (hr_by (f := R 2) (sz := sz) (s := s) hB).resolve_left (fun z => c_20 (by rw [z]; decide))
      refine V.aloadK_n d_Text_taken_23 rfl ?_
      refine V.iload_n d_Text_taken_24 rfl ?_
      refine V.top (y := nI c) ec ?_
      refine V.i2c d_Text_taken_25 ?_
      refine V.top (y := nI c) (i2c_b c hc) ?_
      refine V.callK1 d_Text_taken_26 k_Text_120_Str_indexOfK hi (Nat.le_of_ble_eq_true rfl) (by omega) (by omega) (c_Str_indexOf1 hi hc ?_)
      refine V.if_ge (tgt := 34) d_Text_taken_29 (by decide) (fun c_29 => ?_) (fun c_29 => ?_)
      · skip
        refine V.aload_n d_Text_taken_34 rfl ?_
        refine V.dup rfl d_Text_taken_35 ?_
        refine V.get d_Text_taken_36 f_Text_27_Text (co_s (sc_tx (tx_ds u hu).1)) rfl ?_
        refine V.top (y := nI (s).1) zT_7 ?_
        refine V.iconst_ (nI 1) d_Text_taken_39 (by decide +kernel) ?_
        refine V.addN d_Text_taken_40 ?_
        refine V.put d_Text_taken_41 f_Text_27_Text fp_Text_7 (fun _ => rfl) (fun _ => rfl) (co_s (sc_tx (tx_ds u hu).1)) (Nat.le_of_ble_eq_true rfl) ?_
        refine V.eqH (co_utx (u := u) (k := 7) hu (by decide)) ?_
        rw [zT_at hf]
        refine V.iload_n d_Text_taken_44 rfl ?_
        refine V.iret d_Text_taken_45 rfl (Nat.le_of_ble_eq_true rfl) (Nat.le_of_ble_eq_true rfl) ?_
        exact hT (by rw [ec]; exact (sgT_ix i hi hi4 c hc).mpr c_29)
      · skip
        refine V.iconst_ (-1) d_Text_taken_32 (by decide +kernel) ?_
        refine V.iret d_Text_taken_33 rfl (Nat.le_of_ble_eq_true rfl) (Nat.le_of_ble_eq_true rfl) ?_
        first
        | exact hF (by rw [ec]; exact Bool.eq_false_iff.mpr (fun z => c_29 ((sgT_ix i hi hi4 c hc).mp z)))
        | (rcases hr_by (f := R 2) (sz := sz) (s := s) hB with e | ⟨c, hc, ec⟩
           · exact hF (by rw [e]; exact sgT_m1 i hi hi4)
           · exact absurd c_20 (by rw [ec]; exact Int32.not_lt.mpr ((nI_leI (a := 0) (by decide) (by omega)).mpr (Nat.zero_le _))))
theorem c_Text_taken {l : Launch} {R W Z : Nat → Nat → Int32} {T : Nat → Nat → Nat} {kn : Kn} {h0 : HP} {u sz op : Nat} {d n : Nat} {Q : QT} {s : PS} {L : List Nat} {i : Nat} (hi4 : 4 ≤ i) (hi : i < 10) (hu : u < 2) (hsz : sz ≤ 50) (hz : Z 1 1 = nI sz) (hB : ∀ j, j < sz → ∃ c, c < 256 ∧ R 2 j = nI c) (h1 : s.1 ≤ sz) (hT : sgT i (hr (R 2) sz s) = true → Q (some (.int (hr (R 2) sz s))) n (co (uA R (6 + 6 * u + 1) (wrt (R (6 + 6 * u + 1)) 0 (L))) W (zT Z u (adv s) (L).length op) T kn h0)) (hF : sgT i (hr (R 2) sz s) = false → Q (some (.int (-1))) n (co (uA R (6 + 6 * u + 1) (wrt (R (6 + 6 * u + 1)) 0 (L))) W (zT Z u (s) (L).length op) T kn h0)) : Ct l M_Text_taken (d + 4) 0 0 [.ref (3 + 6 * u), .float (UInt32.ofNat i)] n (co (uA R (6 + 6 * u + 1) (wrt (R (6 + 6 * u + 1)) 0 (L))) W (zT Z u (s) (L).length op) T kn h0) Q := by
  cases hf : s.2.1 with
  | true => exact c_Text_takenF hi4 hi hu hsz hz hB h1 hf hF
  | false => exact c_Text_takenN hi4 hi hu hsz hz hB h1 hf hT hF
abbrev M_Text_readNumber : MD := (⟨"FelledByNames$Text", "readNumber", "()V"⟩, prog_9_method_11_code, 3, none, fun _ => True)
theorem d_Text_readNumber_4 : decode prog_9_method_11_code 4 = .ok (.iload_n 2, 1) := by decide +kernel
theorem d_Text_readNumber_5 : decode prog_9_method_11_code 5 = .ok (.iconst 4, 1) := by decide +kernel
theorem d_Text_readNumber_6 : decode prog_9_method_11_code 6 = .ok (.if_icmp .ge 56, 3) := by decide +kernel
theorem d_Text_readNumber_9 : decode prog_9_method_11_code 9 = .ok (.aload_n 0, 1) := by decide +kernel
theorem d_Text_readNumber_10 : decode prog_9_method_11_code 10 = .ok (.getfield 41, 3) := by decide +kernel
theorem d_Text_readNumber_13 : decode prog_9_method_11_code 13 = .ok (.aload_n 0, 1) := by decide +kernel
theorem d_Text_readNumber_14 : decode prog_9_method_11_code 14 = .ok (.getfield 27, 3) := by decide +kernel
theorem d_Text_readNumber_17 : decode prog_9_method_11_code 17 = .ok (.invokevirtual 116, 3) := by decide +kernel
theorem d_Text_readNumber_20 : decode prog_9_method_11_code 20 = .ok (.invokestatic 123, 3) := by decide +kernel
theorem kB_Text_isDigit : kB M_Text_isDigit 1 := ⟨tm 4 (by decide +kernel) rfl, tm 311 (by decide +kernel) rfl, ⟨by decide, by decide, by decide +kernel⟩, by decide⟩
theorem k_Text_123_Text_isDigitS : kS "FelledByNames$Text" 123 M_Text_isDigit 1 := ⟨kB_Text_isDigit, tm 309 (by decide +kernel) rfl, tm 310 (by decide +kernel) rfl⟩
theorem d_Text_readNumber_23 : decode prog_9_method_11_code 23 = .ok (.ifCond .eq 39, 3) := by decide +kernel
theorem d_Text_readNumber_26 : decode prog_9_method_11_code 26 = .ok (.iload_n 1, 1) := by decide +kernel
theorem d_Text_readNumber_27 : decode prog_9_method_11_code 27 = .ok (.bipush 10, 2) := by decide +kernel
theorem d_Text_readNumber_29 : decode prog_9_method_11_code 29 = .ok (.imul, 1) := by decide +kernel
theorem d_Text_readNumber_30 : decode prog_9_method_11_code 30 = .ok (.aload_n 0, 1) := by decide +kernel
theorem d_Text_readNumber_31 : decode prog_9_method_11_code 31 = .ok (.getfield 41, 3) := by decide +kernel
theorem d_Text_readNumber_34 : decode prog_9_method_11_code 34 = .ok (.aload_n 0, 1) := by decide +kernel
theorem d_Text_readNumber_35 : decode prog_9_method_11_code 35 = .ok (.getfield 27, 3) := by decide +kernel
theorem d_Text_readNumber_38 : decode prog_9_method_11_code 38 = .ok (.invokevirtual 116, 3) := by decide +kernel
theorem d_Text_readNumber_41 : decode prog_9_method_11_code 41 = .ok (.iadd, 1) := by decide +kernel
theorem d_Text_readNumber_42 : decode prog_9_method_11_code 42 = .ok (.bipush 48, 2) := by decide +kernel
theorem d_Text_readNumber_44 : decode prog_9_method_11_code 44 = .ok (.isub, 1) := by decide +kernel
theorem d_Text_readNumber_45 : decode prog_9_method_11_code 45 = .ok (.istore_n 1, 1) := by decide +kernel
theorem d_Text_readNumber_46 : decode prog_9_method_11_code 46 = .ok (.aload_n 0, 1) := by decide +kernel
theorem d_Text_readNumber_47 : decode prog_9_method_11_code 47 = .ok (.dup, 1) := by decide +kernel
theorem d_Text_readNumber_48 : decode prog_9_method_11_code 48 = .ok (.getfield 27, 3) := by decide +kernel
theorem d_Text_readNumber_51 : decode prog_9_method_11_code 51 = .ok (.iconst 1, 1) := by decide +kernel
theorem d_Text_readNumber_52 : decode prog_9_method_11_code 52 = .ok (.iadd, 1) := by decide +kernel
theorem d_Text_readNumber_53 : decode prog_9_method_11_code 53 = .ok (.putfield 27, 3) := by decide +kernel
theorem d_Text_readNumber_56 : decode prog_9_method_11_code 56 = .ok (.iinc 2 1, 3) := by decide +kernel
theorem d_Text_readNumber_59 : decode prog_9_method_11_code 59 = .ok (.goto (-55), 3) := by decide +kernel
set_option maxRecDepth 100000 in
theorem num_digits {l : Launch} {R W Z : Nat → Nat → Int32} {T : Nat → Nat → Nat} {kn : Kn} {h0 : HP} {u sz op : Nat} {d n : Nat} {Q : QT} {s : PS} {L : List Nat} (hu : u < 2) (hsz : sz ≤ 50) (hz : Z 1 1 = nI sz) (hB : ∀ j, j < sz → ∃ c, c < 256 ∧ R 2 j = nI c) (hf : s.2.1 = false) : ∀ (k : Nat) (x : Nat × PS) (j : Nat), j + k = 4 → x.2.1 ≤ sz → x.2.2 = s.2 → V l M_Text_readNumber (d + 2) 0 0 62 [(0, .ref (3 + 6 * u)), (1, .int (nI (dgt (R 2) sz k x).1))] [] n (co (uA R (6 + 6 * u + 1) (wrt (R (6 + 6 * u + 1)) 0 (L))) W (zT Z u ((dgt (R 2) sz k x).2) (L).length op) T kn h0) 0 0 Q → V l M_Text_readNumber (d + 2) 0 0 4 [(0, .ref (3 + 6 * u)), (1, .int (nI x.1)), (2, .int (nI j))] [] n (co (uA R (6 + 6 * u + 1) (wrt (R (6 + 6 * u + 1)) 0 (L))) W (zT Z u (x.2) (L).length op) T kn h0) 0 0 Q := by
  intro k
  induction k with
  | zero =>
    intro x j hj h1 e2 hQ
    have hxf : x.2.2.1 = false := by rw [e2]; exact hf
    refine V.iload_n d_Text_readNumber_4 rfl ?_
    refine V.iconst_ (nI 4) d_Text_readNumber_5 (by decide +kernel) ?_
    refine V.geN (tgt := 62) d_Text_readNumber_6 (by decide) (by omega) (by omega) (fun c_6 => ?_) (fun c_6 => ?_)
    · skip
      exact V.lc rfl hQ
    · skip
      exact absurd c_6 (by omega)
  | succ k ih =>
    intro x j hj h1 e2 hQ
    have hxf : x.2.2.1 = false := by rw [e2]; exact hf
    refine V.iload_n d_Text_readNumber_4 rfl ?_
    refine V.iconst_ (nI 4) d_Text_readNumber_5 (by decide +kernel) ?_
    refine V.geN (tgt := 62) d_Text_readNumber_6 (by decide) (by omega) (by omega) (fun c_6 => ?_) (fun c_6 => ?_)
    · skip
      first
      | exact absurd c_6 (by omega)
      | (have e5 : dgt (R 2) sz (k + 1) x = x := if_neg (by rw [c_23]; decide)
         rw [e5] at hQ
         exact V.lc rfl hQ)
    · skip
      refine V.aload_n d_Text_readNumber_9 rfl ?_
      refine V.get d_Text_readNumber_10 f_Text_41_Text (co_s (sc_tx (tx_ds u hu).1)) rfl ?_
      refine V.aload_n d_Text_readNumber_13 rfl ?_
      refine V.get d_Text_readNumber_14 f_Text_27_Text (co_s (sc_tx (tx_ds u hu).1)) rfl ?_
      refine V.top (y := nI (x.2).1) zT_7 ?_
      refine V.callV1 d_Text_readNumber_17 k_Text_116_Row_get_RowV (co_s (sc_rw rfl)) (Nat.le_of_ble_eq_true rfl) (by omega) (by omega) (c_Row_get (a := 1) (N := 50) (sz := sz) rfl rfl (zT_1.trans hz) hsz (by decide) ?_)
      refine V.top (y := hr (R 2) sz (x.2)) (by rw [uA_n (show 1 + 1 ≠ 6 + 6 * u + 1 by omega)]; exact rgt_hr hsz (by omega) hxf) ?_
      refine V.callS1 d_Text_readNumber_20 k_Text_123_Text_isDigitS (Nat.le_of_ble_eq_true rfl) (by omega) (by omega) (c_Text_isDigit ?_)
      refine V.ifeqB (tgt := 62) d_Text_readNumber_23 (by decide) (fun c_23 => ?_) (fun c_23 => ?_)
      · skip
        first
        | exact absurd c_6 (by omega)
        | (have e5 : dgt (R 2) sz (k + 1) x = x := if_neg (by rw [c_23]; decide)
           rw [e5] at hQ
           exact V.lc rfl hQ)
      · skip
        obtain ⟨hx, hxf⟩ := hr_lt9 c_23
        obtain ⟨w1, w2⟩ := wi_t c_23
        obtain ⟨c, hc, ec⟩ := wi_nat (k := 57) (by decide) (show wi (hr (R 2) sz x.2) 0 (nI 57) = true by unfold wi; rw [decide_eq_true w2, decide_eq_true (Int32.le_trans (by decide +kernel) w1)]; rfl)
        have hc48 : 48 ≤ c := (nI_leI (by decide) (by omega)).mp (by rw [← ec]; exact w1)
        refine V.iload_n d_Text_readNumber_26 rfl ?_
        refine V.bipush_ (nI 10) d_Text_readNumber_27 (by decide +kernel) ?_
        refine V.mulN d_Text_readNumber_29 ?_
        refine V.aload_n d_Text_readNumber_30 rfl ?_
        refine V.get d_Text_readNumber_31 f_Text_41_Text (co_s (sc_tx (tx_ds u hu).1)) rfl ?_
        refine V.aload_n d_Text_readNumber_34 rfl ?_
        refine V.get d_Text_readNumber_35 f_Text_27_Text (co_s (sc_tx (tx_ds u hu).1)) rfl ?_
        refine V.top (y := nI (x.2).1) zT_7 ?_
        refine V.callV1 d_Text_readNumber_38 k_Text_116_Row_get_RowV (co_s (sc_rw rfl)) (Nat.le_of_ble_eq_true rfl) (by omega) (by omega) (c_Row_get (a := 1) (N := 50) (sz := sz) rfl rfl (zT_1.trans hz) hsz (by decide) ?_)
        refine V.top (y := hr (R 2) sz (x.2)) (by rw [uA_n (show 1 + 1 ≠ 6 + 6 * u + 1 by omega)]; exact rgt_hr hsz (by omega) hxf) ?_
        refine V.top (y := nI c) ec ?_
        refine V.addN d_Text_readNumber_41 ?_
        refine V.bipush_ (nI 48) d_Text_readNumber_42 (by decide +kernel) ?_
        refine V.subN d_Text_readNumber_44 (by omega) ?_
        refine V.top (y := nI (10 * x.1 + ((hr (R 2) sz x.2).toNatClampNeg - 48))) (by rw [ec, icl (by omega)]; congr 1; omega) ?_
        refine V.istore_n d_Text_readNumber_45 (by decide) ?_
        refine V.aload_n d_Text_readNumber_46 rfl ?_
        refine V.dup rfl d_Text_readNumber_47 ?_
        refine V.get d_Text_readNumber_48 f_Text_27_Text (co_s (sc_tx (tx_ds u hu).1)) rfl ?_
        refine V.top (y := nI (x.2).1) zT_7 ?_
        refine V.iconst_ (nI 1) d_Text_readNumber_51 (by decide +kernel) ?_
        refine V.addN d_Text_readNumber_52 ?_
        refine V.put d_Text_readNumber_53 f_Text_27_Text fp_Text_7 (fun _ => rfl) (fun _ => rfl) (co_s (sc_tx (tx_ds u hu).1)) (Nat.le_of_ble_eq_true rfl) ?_
        refine V.eqH (co_utx (u := u) (k := 7) hu (by decide)) ?_
        rw [zT_at hxf]
        refine V.incN d_Text_readNumber_56 rfl (by decide) ?_
        refine V.goto (tgt := 4) d_Text_readNumber_59 (by decide) ?_
        refine V.lc rfl (ih (10 * x.1 + ((hr (R 2) sz x.2).toNatClampNeg - 48), adv x.2) (j + 1) (by omega) hx e2 ?_)
        have e5 : dgt (R 2) sz (k + 1) x = dgt (R 2) sz k (10 * x.1 + ((hr (R 2) sz x.2).toNatClampNeg - 48), adv x.2) := if_pos c_23
        rw [e5] at hQ
        exact hQ
theorem d_Text_readNumber_0 : decode prog_9_method_11_code 0 = .ok (.iconst 0, 1) := by decide +kernel
theorem d_Text_readNumber_1 : decode prog_9_method_11_code 1 = .ok (.istore_n 1, 1) := by decide +kernel
theorem d_Text_readNumber_2 : decode prog_9_method_11_code 2 = .ok (.iconst 0, 1) := by decide +kernel
theorem d_Text_readNumber_3 : decode prog_9_method_11_code 3 = .ok (.istore_n 2, 1) := by decide +kernel
theorem d_Text_readNumber_62 : decode prog_9_method_11_code 62 = .ok (.aload_n 0, 1) := by decide +kernel
theorem d_Text_readNumber_63 : decode prog_9_method_11_code 63 = .ok (.getfield 20, 3) := by decide +kernel
theorem f_Text_20_Text : fok "FelledByNames$Text" 20 3 5 := ⟨R_Text, F_Text, 11, "FelledByNames$Text", rfl, i_Text, by decide, tm 74 (by decide +kernel) rfl, Or.inl rfl, t_Text, t_Text_ok, n_Text⟩
theorem d_Text_readNumber_66 : decode prog_9_method_11_code 66 = .ok (.iload_n 1, 1) := by decide +kernel
theorem d_Text_readNumber_67 : decode prog_9_method_11_code 67 = .ok (.invokevirtual 64, 3) := by decide +kernel
theorem k_Text_64_Row_add_RowV : kV "FelledByNames$Text" 64 1 M_Row_add 1 := ⟨kB_Row_add, tm 284 (by decide +kernel) rfl, tm 170 (by decide +kernel) rfl, tm 171 (by decide +kernel) rfl, _, rfl, rfl⟩
theorem d_Text_readNumber_70 : decode prog_9_method_11_code 70 = .ok (.return_, 1) := by decide +kernel
set_option maxRecDepth 100000 in
theorem c_Text_readNumber {l : Launch} {R W Z : Nat → Nat → Int32} {T : Nat → Nat → Nat} {kn : Kn} {h0 : HP} {u sz op : Nat} {d n : Nat} {Q : QT} {s : PS} {L : List Nat} (hu : u < 2) (hsz : sz ≤ 50) (hz : Z 1 1 = nI sz) (hB : ∀ j, j < sz → ∃ c, c < 256 ∧ R 2 j = nI c) (h1 : s.1 ≤ sz) (h2 : s.2.2.length ≤ s.1) (hR : RL s L) (hf : s.2.1 = false) (hg : wi (hr (R 2) sz s) (nI 48) (nI 57) = true) (hQ : ∀ L2, RL (nuP (R 2) sz s) L2 → Q none n (co (uA R (6 + 6 * u + 1) (wrt (R (6 + 6 * u + 1)) 0 (L2))) W (zT Z u (nuP (R 2) sz s) (L2).length op) T kn h0)) : Ct l M_Text_readNumber (d + 2) 0 0 [.ref (3 + 6 * u)] n (co (uA R (6 + 6 * u + 1) (wrt (R (6 + 6 * u + 1)) 0 (L))) W (zT Z u (s) (L).length op) T kn h0) Q := by
  have hx := (hr_lt9 hg).1
  obtain ⟨g1, g2, g3, g4⟩ := dgt_gp (f := R 2) (sz := sz) 3 (0 * 10 + ((hr (R 2) sz s).toNatClampNeg - 48), adv s) hx
  have e4 : (dgt (R 2) sz 4 (0, s)) = dgt (R 2) sz 3 (10 * 0 + ((hr (R 2) sz s).toNatClampNeg - 48), adv s) := if_pos hg
  have g1' : s.1 + 1 ≤ (dgt (R 2) sz 4 (0, s)).2.1 := by rw [e4]; exact g1
  have g2' : (dgt (R 2) sz 4 (0, s)).2.1 ≤ sz := by rw [e4]; exact g2
  have g3' : (dgt (R 2) sz 4 (0, s)).2.2 = s.2 := by rw [e4]; exact g3
  refine Ct.of (fun _ => trivial) (by decide) (Nat.le_of_ble_eq_true rfl) ?_
  refine V.iconst_ (nI 0) d_Text_readNumber_0 (by decide +kernel) ?_
  refine V.istore_n d_Text_readNumber_1 (by decide) ?_
  refine V.iconst_ (nI 0) d_Text_readNumber_2 (by decide +kernel) ?_
  refine V.istore_n d_Text_readNumber_3 (by decide) ?_
  refine V.lc (ls' := [(0, .ref (3 + 6 * u)), (1, .int (nI (0, s).1)), (2, .int (nI 0))]) rfl (num_digits (s := s) hu hsz hz hB hf 4 (0, s) 0 (by omega) h1 rfl ?_)
  refine V.aload_n d_Text_readNumber_62 rfl ?_
  refine V.get d_Text_readNumber_63 f_Text_20_Text (co_s (sc_tx (tx_ds u hu).1)) rfl ?_
  refine V.iload_n d_Text_readNumber_66 rfl ?_
  refine V.callV1 d_Text_readNumber_67 k_Text_64_Row_add_RowV (co_s (sc_rw (tx_ds u hu).2.2.2.1)) (Nat.le_of_ble_eq_true rfl) (by omega) (by omega) (c_draft (s := (dgt (R 2) sz 4 (0, s)).2) hu ⟨fun _ => by rw [g3']; exact hR.1 hf, hR.2⟩ (fun _ => by rw [g3']; omega) (fun L2 hR2 => ?_))
  refine V.vret d_Text_readNumber_70 rfl (Nat.le_of_ble_eq_true rfl) (Nat.le_of_ble_eq_true rfl) ?_
  rw [show nuP (R 2) sz s = ly (dgt (R 2) sz 4 (0, s)).1 (dgt (R 2) sz 4 (0, s)).2 from if_neg (fun z => absurd z (by omega))] at hQ
  exact hQ L2 hR2
