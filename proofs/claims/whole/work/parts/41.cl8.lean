theorem nmo_dig : ∀ c, 48 ≤ c → c ≤ 57 → nmo false (nI c) = none ∧ nmo true (nI c) = none := by
  intro c h1 h2
  rcases (show c = 48 ∨ c = 49 ∨ c = 50 ∨ c = 51 ∨ c = 52 ∨ c = 53 ∨ c = 54 ∨ c = 55 ∨ c = 56 ∨ c = 57 by omega) with rfl | rfl | rfl | rfl | rfl | rfl | rfl | rfl | rfl | rfl <;> decide +kernel
theorem nmo_33 : ∀ wd : Bool, nmo wd (nI 33) = none ∧ nmo wd (nI 40) = none := by intro wd; cases wd <;> decide +kernel
theorem nmo_m1 : ∀ wd : Bool, nmo wd (-1) = none := by intro wd; cases wd <;> decide +kernel
section UT
variable {f : Nat → Int32} {sz : Nat} {wd : Bool} {o : Option (PS → PS)} {s : PS}
theorem nu_no (h : wi (hr f sz s) (nI 48) (nI 57) = false) : nuP f sz s = wg s := by
  have e : dgt f sz 4 (0, s) = (0, s) := if_neg (by show ¬ wi (hr f sz s) (nI 48) (nI 57) = true; rw [h]; decide)
  unfold nuP
  rw [e]
  exact if_pos rfl
theorem ut_dig (h : wi (hr f sz s) (nI 48) (nI 57) = true) : utP f sz wd o s = nuP f sz s := by
  obtain ⟨w1, w2⟩ := wi_t h
  obtain ⟨c, hc, ec⟩ := wi_nat (k := 57) (by decide) (show wi (hr f sz s) 0 (nI 57) = true by unfold wi; rw [decide_eq_true w2, decide_eq_true (Int32.le_trans (by decide +kernel) w1)]; rfl)
  have hc48 : 48 ≤ c := (nI_leI (by decide) (by omega)).mp (by rw [← ec]; exact w1)
  have hn : nmo wd (nI c) = none := by cases wd; exact (nmo_dig c hc48 (by omega)).1; exact (nmo_dig c hc48 (by omega)).2
  unfold utP
  rw [if_neg (by rw [ec]; intro z; rcases z with z | z; exact absurd ((nI_eq (by omega) (by decide)).mp z) (by omega); exact absurd ((nI_eq (by omega) (by decide)).mp z) (by omega)), ec, hn]
theorem ut_op (h : hr f sz s = nI 33 ∨ hr f sz s = nI 40) : utP f sz wd o s = opP f sz o s := if_pos h
theorem ut_nm {k : Nat} (hn : nmo wd (hr f sz s) = some k) : utP f sz wd o s = ly (10000 + k) (adv s) := by
  have h : ¬ (hr f sz s = nI 33 ∨ hr f sz s = nI 40) := fun z => by
    rcases z with z | z
    · rw [z, (nmo_33 wd).1] at hn; cases hn
    · rw [z, (nmo_33 wd).2] at hn; cases hn
  unfold utP
  rw [if_neg h, hn]
theorem ut_no (h : ¬ (hr f sz s = nI 33 ∨ hr f sz s = nI 40)) (hn : nmo wd (hr f sz s) = none) (hd : wi (hr f sz s) (nI 48) (nI 57) = false) : utP f sz wd o s = wg s := by
  unfold utP
  rw [if_neg h, hn]
  exact nu_no hd
theorem wg_f (hf : s.2.1 = true) : wg s = s := by
  show (s.1, true, s.2.2) = s
  rw [← hf]
theorem ut_f (hf : s.2.1 = true) : utP f sz wd o s = s := by
  have e : hr f sz s = -1 := hr_f hf
  rw [ut_no (by rw [e]; decide +kernel) (by rw [e]; exact nmo_m1 wd) (by rw [e]; decide +kernel), wg_f hf]
theorem ly_adv2 {v : Nat} : (ly v (adv s)).2 = (ly v s).2 := by
  unfold ly adv
  split <;> rfl
theorem RL_2 {s t : PS} {L : List Nat} (h : RL s L) (e : t.2 = s.2) : RL t L := by
  unfold RL at h ⊢
  rw [e]; exact h
end UT
abbrev M_Text_readOpen : MD := (⟨"FelledByNames$Text", "readOpen", "(I)V"⟩, prog_9_method_12_code, 2, none, fun _ => True)
abbrev M_Text_readPart : MD := (⟨"FelledByNames$Text", "readPart", "()V"⟩, prog_9_method_9_code, 2, none, fun _ => True)
abbrev M_Text_readLevel : MD := (⟨"FelledByNames$Text", "readLevel", "(I)V"⟩, prog_9_method_7_code, 5, none, fun _ => True)
theorem d_Text_readOpen_0 : decode prog_9_method_12_code 0 = .ok (.aload_n 0, 1) := by decide +kernel
theorem d_Text_readOpen_1 : decode prog_9_method_12_code 1 = .ok (.dup, 1) := by decide +kernel
theorem d_Text_readOpen_2 : decode prog_9_method_12_code 2 = .ok (.getfield 27, 3) := by decide +kernel
theorem d_Text_readOpen_5 : decode prog_9_method_12_code 5 = .ok (.iconst 1, 1) := by decide +kernel
theorem d_Text_readOpen_6 : decode prog_9_method_12_code 6 = .ok (.iadd, 1) := by decide +kernel
theorem d_Text_readOpen_7 : decode prog_9_method_12_code 7 = .ok (.putfield 27, 3) := by decide +kernel
theorem d_Text_readOpen_10 : decode prog_9_method_12_code 10 = .ok (.aload_n 0, 1) := by decide +kernel
theorem d_Text_readOpen_11 : decode prog_9_method_12_code 11 = .ok (.dup, 1) := by decide +kernel
theorem d_Text_readOpen_12 : decode prog_9_method_12_code 12 = .ok (.getfield 31, 3) := by decide +kernel
theorem f_Text_31_Text : fok "FelledByNames$Text" 31 3 8 := ⟨R_Text, F_Text, 11, "FelledByNames$Text", rfl, i_Text, by decide, tm 77 (by decide +kernel) rfl, Or.inl rfl, t_Text, t_Text_ok, n_Text⟩
theorem d_Text_readOpen_15 : decode prog_9_method_12_code 15 = .ok (.iconst 1, 1) := by decide +kernel
theorem d_Text_readOpen_16 : decode prog_9_method_12_code 16 = .ok (.iadd, 1) := by decide +kernel
theorem d_Text_readOpen_17 : decode prog_9_method_12_code 17 = .ok (.putfield 31, 3) := by decide +kernel
theorem fp_Text_8 : fpk 3 8 (.int) := ⟨_, _, _, rfl, rfl, by decide +kernel⟩
theorem d_Text_readOpen_20 : decode prog_9_method_12_code 20 = .ok (.iload_n 1, 1) := by decide +kernel
theorem d_Text_readOpen_21 : decode prog_9_method_12_code 21 = .ok (.bipush 33, 2) := by decide +kernel
theorem d_Text_readOpen_23 : decode prog_9_method_12_code 23 = .ok (.if_icmp .ne 20, 3) := by decide +kernel
theorem d_Text_readOpen_26 : decode prog_9_method_12_code 26 = .ok (.aload_n 0, 1) := by decide +kernel
theorem d_Text_readOpen_27 : decode prog_9_method_12_code 27 = .ok (.invokevirtual 105, 3) := by decide +kernel
theorem kB_Text_readPart : kB M_Text_readPart 0 := ⟨tm 4 (by decide +kernel) rfl, tm 302 (by decide +kernel) rfl, ⟨by decide, by decide, by decide +kernel⟩, by decide⟩
theorem k_Text_105_Text_readPart_TextV : kV "FelledByNames$Text" 105 3 M_Text_readPart 0 := ⟨kB_Text_readPart, tm 299 (by decide +kernel) rfl, tm 301 (by decide +kernel) rfl, tp 1 (by decide +kernel) rfl, _, rfl, rfl⟩
theorem d_Text_readOpen_30 : decode prog_9_method_12_code 30 = .ok (.aload_n 0, 1) := by decide +kernel
theorem d_Text_readOpen_31 : decode prog_9_method_12_code 31 = .ok (.getfield 20, 3) := by decide +kernel
theorem d_Text_readOpen_34 : decode prog_9_method_12_code 34 = .ok (.sipush 20033, 3) := by decide +kernel
theorem d_Text_readOpen_37 : decode prog_9_method_12_code 37 = .ok (.invokevirtual 64, 3) := by decide +kernel
theorem d_Text_readOpen_40 : decode prog_9_method_12_code 40 = .ok (.goto 32, 3) := by decide +kernel
theorem d_Text_readOpen_72 : decode prog_9_method_12_code 72 = .ok (.aload_n 0, 1) := by decide +kernel
theorem d_Text_readOpen_73 : decode prog_9_method_12_code 73 = .ok (.dup, 1) := by decide +kernel
theorem d_Text_readOpen_74 : decode prog_9_method_12_code 74 = .ok (.getfield 31, 3) := by decide +kernel
theorem d_Text_readOpen_77 : decode prog_9_method_12_code 77 = .ok (.iconst 1, 1) := by decide +kernel
theorem d_Text_readOpen_78 : decode prog_9_method_12_code 78 = .ok (.isub, 1) := by decide +kernel
theorem d_Text_readOpen_79 : decode prog_9_method_12_code 79 = .ok (.putfield 31, 3) := by decide +kernel
theorem d_Text_readOpen_82 : decode prog_9_method_12_code 82 = .ok (.return_, 1) := by decide +kernel
set_option maxRecDepth 100000 in
theorem c_Text_readOpen33 {l : Launch} {R W Z : Nat → Nat → Int32} {T : Nat → Nat → Nat} {kn : Kn} {h0 : HP} {u sz op : Nat} {n : Nat} {Q : QT} {s : PS} {L : List Nat} {u2 : PS → PS} {y : Nat} (hu : u < 2) (hsz : sz ≤ 50) (hz : Z 1 1 = nI sz) (hB : ∀ j, j < sz → ∃ c, c < 256 ∧ R 2 j = nI c) (gu : Gp sz u2) (hu2 : (∀ (n : Nat) (Q : QT) (s : PS) (L : List Nat), s.1 ≤ sz → s.2.2.length ≤ s.1 → RL s L → (∀ L2, RL (u2 s) L2 → Q none n (co (uA R (6 + 6 * u + 1) (wrt (R (6 + 6 * u + 1)) 0 (L2))) W (zT Z u (u2 s) (L2).length (op + 1)) T kn h0)) → Ct l M_Text_readPart (y + 5) 0 0 [.ref (3 + 6 * u)] n (co (uA R (6 + 6 * u + 1) (wrt (R (6 + 6 * u + 1)) 0 (L))) W (zT Z u (s) (L).length (op + 1)) T kn h0) Q)) (h1 : s.1 ≤ sz) (h2 : s.2.2.length ≤ s.1) (hR : RL s L) (hc : hr (R 2) sz s = nI 33) (hQ : ∀ L2, RL (ly 20033 (u2 (adv s))) L2 → Q none n (co (uA R (6 + 6 * u + 1) (wrt (R (6 + 6 * u + 1)) 0 (L2))) W (zT Z u (ly 20033 (u2 (adv s))) (L2).length op) T kn h0)) : Ct l M_Text_readOpen (y + 6) 0 0 [.ref (3 + 6 * u), .int (nI 33)] n (co (uA R (6 + 6 * u + 1) (wrt (R (6 + 6 * u + 1)) 0 (L))) W (zT Z u (s) (L).length op) T kn h0) Q := by
  have hx := (hr_lt (by decide) hc).1
  have hxf := (hr_lt (by decide) hc).2
  obtain ⟨g1, g2, g3⟩ := gu (adv s) hx
  have ga : (adv s).1 = s.1 + 1 := rfl
  have gb : (adv s).2.2 = s.2.2 := rfl
  rw [ga] at g1 g3
  rw [gb] at g3
  refine Ct.of (fun _ => trivial) (by decide) (Nat.le_of_ble_eq_true rfl) ?_
  refine V.aload_n d_Text_readOpen_0 rfl ?_
  refine V.dup rfl d_Text_readOpen_1 ?_
  refine V.get d_Text_readOpen_2 f_Text_27_Text (co_s (sc_tx (tx_ds u hu).1)) rfl ?_
  refine V.top (y := nI (s).1) zT_7 ?_
  refine V.iconst_ (nI 1) d_Text_readOpen_5 (by decide +kernel) ?_
  refine V.addN d_Text_readOpen_6 ?_
  refine V.put d_Text_readOpen_7 f_Text_27_Text fp_Text_7 (fun _ => rfl) (fun _ => rfl) (co_s (sc_tx (tx_ds u hu).1)) (Nat.le_of_ble_eq_true rfl) ?_
  refine V.eqH (co_utx (u := u) (k := 7) hu (by decide)) ?_
  rw [zT_at hxf]
  refine V.aload_n d_Text_readOpen_10 rfl ?_
  refine V.dup rfl d_Text_readOpen_11 ?_
  refine V.get d_Text_readOpen_12 f_Text_31_Text (co_s (sc_tx (tx_ds u hu).1)) rfl ?_
  refine V.top (y := nI (op)) zT_8 ?_
  refine V.iconst_ (nI 1) d_Text_readOpen_15 (by decide +kernel) ?_
  refine V.addN d_Text_readOpen_16 ?_
  refine V.put d_Text_readOpen_17 f_Text_31_Text fp_Text_8 (fun _ => rfl) (fun _ => rfl) (co_s (sc_tx (tx_ds u hu).1)) (Nat.le_of_ble_eq_true rfl) ?_
  refine V.eqH (co_utx (u := u) (k := 8) hu (by decide)) ?_
  rw [zT_op]
  refine V.iload_n d_Text_readOpen_20 rfl ?_
  refine V.bipush_ (nI 33) d_Text_readOpen_21 (by decide +kernel) ?_
  refine V.neN (tgt := 43) d_Text_readOpen_23 (by decide) (by omega) (by omega) (fun c_23 => ?_) (fun c_23 => ?_)
  · skip
    exact absurd rfl c_23
  · skip
    refine V.aload_n d_Text_readOpen_26 rfl ?_
    refine V.callV0 d_Text_readOpen_27 k_Text_105_Text_readPart_TextV (co_s (sc_tx (tx_ds u hu).1)) (Nat.le_of_ble_eq_true rfl) (by omega) (by omega) (hu2 _ _ (adv s) L hx (by show s.2.2.length ≤ s.1 + 1; omega) hR (fun L2 hR2 => ?_))
    refine V.aload_n d_Text_readOpen_30 rfl ?_
    refine V.get d_Text_readOpen_31 f_Text_20_Text (co_s (sc_tx (tx_ds u hu).1)) rfl ?_
    refine V.sipush_ (nI 20033) d_Text_readOpen_34 (by decide +kernel) ?_
    refine V.callV1 d_Text_readOpen_37 k_Text_64_Row_add_RowV (co_s (sc_rw (tx_ds u hu).2.2.2.1)) (Nat.le_of_ble_eq_true rfl) (by omega) (by omega) (c_draft (v := 20033) (s := u2 (adv s)) hu hR2 (fun _ => by omega) (fun L3 hR3 => ?_))
    refine V.goto (tgt := 72) d_Text_readOpen_40 (by decide) ?_
    refine V.aload_n d_Text_readOpen_72 rfl ?_
    refine V.dup rfl d_Text_readOpen_73 ?_
    refine V.get d_Text_readOpen_74 f_Text_31_Text (co_s (sc_tx (tx_ds u hu).1)) rfl ?_
    refine V.top (y := nI (op + 1)) zT_8 ?_
    refine V.iconst_ (nI 1) d_Text_readOpen_77 (by decide +kernel) ?_
    refine V.subN d_Text_readOpen_78 (by omega) ?_
    refine V.put d_Text_readOpen_79 f_Text_31_Text fp_Text_8 (fun _ => rfl) (fun _ => rfl) (co_s (sc_tx (tx_ds u hu).1)) (Nat.le_of_ble_eq_true rfl) ?_
    refine V.eqH (co_utx (u := u) (k := 8) hu (by decide)) ?_
    rw [zT_op]
    refine V.vret d_Text_readOpen_82 rfl (Nat.le_of_ble_eq_true rfl) (Nat.le_of_ble_eq_true rfl) ?_
    exact hQ L3 hR3
theorem d_Text_readOpen_43 : decode prog_9_method_12_code 43 = .ok (.aload_n 0, 1) := by decide +kernel
theorem d_Text_readOpen_44 : decode prog_9_method_12_code 44 = .ok (.iconst 0, 1) := by decide +kernel
theorem d_Text_readOpen_45 : decode prog_9_method_12_code 45 = .ok (.invokevirtual 86, 3) := by decide +kernel
theorem kB_Text_readLevel : kB M_Text_readLevel 1 := ⟨tm 4 (by decide +kernel) rfl, tm 298 (by decide +kernel) rfl, ⟨by decide, by decide, by decide +kernel⟩, by decide⟩
theorem k_Text_86_Text_readLevel_TextV : kV "FelledByNames$Text" 86 3 M_Text_readLevel 1 := ⟨kB_Text_readLevel, tm 295 (by decide +kernel) rfl, tm 297 (by decide +kernel) rfl, tp 0 (by decide +kernel) rfl, _, rfl, rfl⟩
theorem d_Text_readOpen_48 : decode prog_9_method_12_code 48 = .ok (.aload_n 0, 1) := by decide +kernel
theorem d_Text_readOpen_49 : decode prog_9_method_12_code 49 = .ok (.ldc 133, 2) := by decide +kernel
theorem d_Text_readOpen_51 : decode prog_9_method_12_code 51 = .ok (.invokevirtual 112, 3) := by decide +kernel
theorem kB_Text_taken : kB M_Text_taken 1 := ⟨tm 4 (by decide +kernel) rfl, tm 381 (by decide +kernel) rfl, ⟨by decide, by decide, by decide +kernel⟩, by decide⟩
theorem k_Text_112_Text_taken_TextV : kV "FelledByNames$Text" 112 3 M_Text_taken 1 := ⟨kB_Text_taken, tm 378 (by decide +kernel) rfl, tm 380 (by decide +kernel) rfl, tp 4 (by decide +kernel) rfl, _, rfl, rfl⟩
theorem d_Text_readOpen_54 : decode prog_9_method_12_code 54 = .ok (.ifCond .ge 18, 3) := by decide +kernel
theorem d_Text_readOpen_57 : decode prog_9_method_12_code 57 = .ok (.aload_n 0, 1) := by decide +kernel
theorem d_Text_readOpen_58 : decode prog_9_method_12_code 58 = .ok (.getfield 34, 3) := by decide +kernel
theorem d_Text_readOpen_61 : decode prog_9_method_12_code 61 = .ok (.ifCond .ge 11, 3) := by decide +kernel
theorem d_Text_readOpen_64 : decode prog_9_method_12_code 64 = .ok (.aload_n 0, 1) := by decide +kernel
theorem d_Text_readOpen_65 : decode prog_9_method_12_code 65 = .ok (.aload_n 0, 1) := by decide +kernel
theorem d_Text_readOpen_66 : decode prog_9_method_12_code 66 = .ok (.getfield 27, 3) := by decide +kernel
theorem d_Text_readOpen_69 : decode prog_9_method_12_code 69 = .ok (.putfield 34, 3) := by decide +kernel
theorem fp_Text_9 : fpk 3 9 (.int) := ⟨_, _, _, rfl, rfl, by decide +kernel⟩
set_option maxRecDepth 100000 in
theorem c_Text_readOpen40 {l : Launch} {R W Z : Nat → Nat → Int32} {T : Nat → Nat → Nat} {kn : Kn} {h0 : HP} {u sz op : Nat} {n : Nat} {Q : QT} {s : PS} {L : List Nat} {u2 : PS → PS} {y : Nat} (hu : u < 2) (hsz : sz ≤ 50) (hz : Z 1 1 = nI sz) (hB : ∀ j, j < sz → ∃ c, c < 256 ∧ R 2 j = nI c) (gu : Gp sz u2) (hu2 : (∀ (n : Nat) (Q : QT) (s : PS) (L : List Nat), s.1 ≤ sz → s.2.2.length ≤ s.1 → RL s L → (∀ L2, RL (u2 s) L2 → Q none n (co (uA R (6 + 6 * u + 1) (wrt (R (6 + 6 * u + 1)) 0 (L2))) W (zT Z u (u2 s) (L2).length (op + 1)) T kn h0)) → Ct l M_Text_readLevel (y + 5) 0 0 [.ref (3 + 6 * u), .int (nI 0)] n (co (uA R (6 + 6 * u + 1) (wrt (R (6 + 6 * u + 1)) 0 (L))) W (zT Z u (s) (L).length (op + 1)) T kn h0) Q)) (h1 : s.1 ≤ sz) (h2 : s.2.2.length ≤ s.1) (hR : RL s L) (hc : hr (R 2) sz s = nI 40) (hQ : ∀ L2, RL (clP (R 2) sz (u2 (adv s))) L2 → Q none n (co (uA R (6 + 6 * u + 1) (wrt (R (6 + 6 * u + 1)) 0 (L2))) W (zT Z u (clP (R 2) sz (u2 (adv s))) (L2).length op) T kn h0)) : Ct l M_Text_readOpen (y + 6) 0 0 [.ref (3 + 6 * u), .int (nI 40)] n (co (uA R (6 + 6 * u + 1) (wrt (R (6 + 6 * u + 1)) 0 (L))) W (zT Z u (s) (L).length op) T kn h0) Q := by
  have hx := (hr_lt (by decide) hc).1
  have hxf := (hr_lt (by decide) hc).2
  obtain ⟨g1, g2, g3⟩ := gu (adv s) hx
  have ga : (adv s).1 = s.1 + 1 := rfl
  have gb : (adv s).2.2 = s.2.2 := rfl
  rw [ga] at g1 g3
  rw [gb] at g3
  refine Ct.of (fun _ => trivial) (by decide) (Nat.le_of_ble_eq_true rfl) ?_
  refine V.aload_n d_Text_readOpen_0 rfl ?_
  refine V.dup rfl d_Text_readOpen_1 ?_
  refine V.get d_Text_readOpen_2 f_Text_27_Text (co_s (sc_tx (tx_ds u hu).1)) rfl ?_
  refine V.top (y := nI (s).1) zT_7 ?_
  refine V.iconst_ (nI 1) d_Text_readOpen_5 (by decide +kernel) ?_
  refine V.addN d_Text_readOpen_6 ?_
  refine V.put d_Text_readOpen_7 f_Text_27_Text fp_Text_7 (fun _ => rfl) (fun _ => rfl) (co_s (sc_tx (tx_ds u hu).1)) (Nat.le_of_ble_eq_true rfl) ?_
  refine V.eqH (co_utx (u := u) (k := 7) hu (by decide)) ?_
  rw [zT_at hxf]
  refine V.aload_n d_Text_readOpen_10 rfl ?_
  refine V.dup rfl d_Text_readOpen_11 ?_
  refine V.get d_Text_readOpen_12 f_Text_31_Text (co_s (sc_tx (tx_ds u hu).1)) rfl ?_
  refine V.top (y := nI (op)) zT_8 ?_
  refine V.iconst_ (nI 1) d_Text_readOpen_15 (by decide +kernel) ?_
  refine V.addN d_Text_readOpen_16 ?_
  refine V.put d_Text_readOpen_17 f_Text_31_Text fp_Text_8 (fun _ => rfl) (fun _ => rfl) (co_s (sc_tx (tx_ds u hu).1)) (Nat.le_of_ble_eq_true rfl) ?_
  refine V.eqH (co_utx (u := u) (k := 8) hu (by decide)) ?_
  rw [zT_op]
  refine V.iload_n d_Text_readOpen_20 rfl ?_
  refine V.bipush_ (nI 33) d_Text_readOpen_21 (by decide +kernel) ?_
  refine V.neN (tgt := 43) d_Text_readOpen_23 (by decide) (by omega) (by omega) (fun c_23 => ?_) (fun c_23 => ?_)
  · skip
    refine V.aload_n d_Text_readOpen_43 rfl ?_
    refine V.iconst_ (nI 0) d_Text_readOpen_44 (by decide +kernel) ?_
    refine V.callV1 d_Text_readOpen_45 k_Text_86_Text_readLevel_TextV (co_s (sc_tx (tx_ds u hu).1)) (Nat.le_of_ble_eq_true rfl) (by omega) (by omega) (hu2 _ _ (adv s) L hx (by show s.2.2.length ≤ s.1 + 1; omega) hR (fun L2 hR2 => ?_))
    refine V.aload_n d_Text_readOpen_48 rfl ?_
    refine V.ldcS (i := 9) d_Text_readOpen_49 rfl rfl rfl (by decide) ?_
    refine V.callV1 d_Text_readOpen_51 k_Text_112_Text_taken_TextV (co_s (sc_tx (tx_ds u hu).1)) (Nat.le_of_ble_eq_true rfl) (by omega) (by omega) (c_Text_taken (i := 9) (s := u2 (adv s)) (by decide) (by decide) hu hsz hz hB g2 (fun hs => ?_) (fun hs => ?_))
    · skip
      have e41 : hr (R 2) sz (u2 (adv s)) = nI 41 := of_decide_eq_true hs
      refine V.top (y := nI 41) e41 ?_
      refine V.if_ge (tgt := 72) d_Text_readOpen_54 (by decide) (fun c_54 => ?_) (fun c_54 => ?_)
      · skip
        refine V.aload_n d_Text_readOpen_72 rfl ?_
        refine V.dup rfl d_Text_readOpen_73 ?_
        refine V.get d_Text_readOpen_74 f_Text_31_Text (co_s (sc_tx (tx_ds u hu).1)) rfl ?_
        refine V.top (y := nI (op + 1)) zT_8 ?_
        refine V.iconst_ (nI 1) d_Text_readOpen_77 (by decide +kernel) ?_
        refine V.subN d_Text_readOpen_78 (by omega) ?_
        refine V.put d_Text_readOpen_79 f_Text_31_Text fp_Text_8 (fun _ => rfl) (fun _ => rfl) (co_s (sc_tx (tx_ds u hu).1)) (Nat.le_of_ble_eq_true rfl) ?_
        refine V.eqH (co_utx (u := u) (k := 8) hu (by decide)) ?_
        rw [zT_op]
        refine V.vret d_Text_readOpen_82 rfl (Nat.le_of_ble_eq_true rfl) (Nat.le_of_ble_eq_true rfl) ?_
        rw [show clP (R 2) sz (u2 (adv s)) = adv (u2 (adv s)) from if_pos e41] at hQ
        exact hQ L2 hR2
      · skip
        exact absurd (by decide +kernel) c_54
    · skip
      have e41 : ¬ hr (R 2) sz (u2 (adv s)) = nI 41 := of_decide_eq_false hs
      refine V.if_ge (tgt := 72) d_Text_readOpen_54 (by decide) (fun c_54 => ?_) (fun c_54 => ?_)
      · skip
        exact absurd c_54 (by decide +kernel)
      · skip
        refine V.aload_n d_Text_readOpen_57 rfl ?_
        refine V.get d_Text_readOpen_58 f_Text_34_Text (co_s (sc_tx (tx_ds u hu).1)) rfl ?_
        refine V.if_ge (tgt := 72) d_Text_readOpen_61 (by decide) (fun c_61 => ?_) (fun c_61 => ?_)
        · skip
          refine V.aload_n d_Text_readOpen_72 rfl ?_
          refine V.dup rfl d_Text_readOpen_73 ?_
          refine V.get d_Text_readOpen_74 f_Text_31_Text (co_s (sc_tx (tx_ds u hu).1)) rfl ?_
          refine V.top (y := nI (op + 1)) zT_8 ?_
          refine V.iconst_ (nI 1) d_Text_readOpen_77 (by decide +kernel) ?_
          refine V.subN d_Text_readOpen_78 (by omega) ?_
          refine V.put d_Text_readOpen_79 f_Text_31_Text fp_Text_8 (fun _ => rfl) (fun _ => rfl) (co_s (sc_tx (tx_ds u hu).1)) (Nat.le_of_ble_eq_true rfl) ?_
          refine V.eqH (co_utx (u := u) (k := 8) hu (by decide)) ?_
          rw [zT_op]
          refine V.vret d_Text_readOpen_82 rfl (Nat.le_of_ble_eq_true rfl) (Nat.le_of_ble_eq_true rfl) ?_
          rw [show clP (R 2) sz (u2 (adv s)) = wg (u2 (adv s)) from if_neg e41, wg_f ((zT_9i (by omega)).mp c_61)] at hQ
          exact hQ L2 hR2
        · skip
          have hxf2 : (u2 (adv s)).2.1 = false := Bool.eq_false_iff.mpr (fun z => c_61 ((zT_9i (by omega)).mpr z))
          refine V.aload_n d_Text_readOpen_64 rfl ?_
          refine V.aload_n d_Text_readOpen_65 rfl ?_
          refine V.get d_Text_readOpen_66 f_Text_27_Text (co_s (sc_tx (tx_ds u hu).1)) rfl ?_
          refine V.top (y := nI (u2 (adv s)).1) zT_7 ?_
          refine V.put d_Text_readOpen_69 f_Text_34_Text fp_Text_9 (fun _ => rfl) (fun _ => rfl) (co_s (sc_tx (tx_ds u hu).1)) (Nat.le_of_ble_eq_true rfl) ?_
          refine V.eqH (co_utx (u := u) (k := 9) hu (by decide)) ?_
          rw [zT_wg hxf2]
          refine V.aload_n d_Text_readOpen_72 rfl ?_
          refine V.dup rfl d_Text_readOpen_73 ?_
          refine V.get d_Text_readOpen_74 f_Text_31_Text (co_s (sc_tx (tx_ds u hu).1)) rfl ?_
          refine V.top (y := nI (op + 1)) zT_8 ?_
          refine V.iconst_ (nI 1) d_Text_readOpen_77 (by decide +kernel) ?_
          refine V.subN d_Text_readOpen_78 (by omega) ?_
          refine V.put d_Text_readOpen_79 f_Text_31_Text fp_Text_8 (fun _ => rfl) (fun _ => rfl) (co_s (sc_tx (tx_ds u hu).1)) (Nat.le_of_ble_eq_true rfl) ?_
          refine V.eqH (co_utx (u := u) (k := 8) hu (by decide)) ?_
          rw [zT_op]
          refine V.vret d_Text_readOpen_82 rfl (Nat.le_of_ble_eq_true rfl) (Nat.le_of_ble_eq_true rfl) ?_
          rw [show clP (R 2) sz (u2 (adv s)) = wg (u2 (adv s)) from if_neg e41] at hQ
          exact hQ L2 (RL_wg hR2)
  · skip
    exact absurd c_23 (by decide)
theorem d_Text_readPart_0 : decode prog_9_method_9_code 0 = .ok (.aload_n 0, 1) := by decide +kernel
theorem d_Text_readPart_1 : decode prog_9_method_9_code 1 = .ok (.getfield 41, 3) := by decide +kernel
theorem d_Text_readPart_4 : decode prog_9_method_9_code 4 = .ok (.aload_n 0, 1) := by decide +kernel
theorem d_Text_readPart_5 : decode prog_9_method_9_code 5 = .ok (.getfield 27, 3) := by decide +kernel
theorem d_Text_readPart_8 : decode prog_9_method_9_code 8 = .ok (.invokevirtual 116, 3) := by decide +kernel
theorem d_Text_readPart_11 : decode prog_9_method_9_code 11 = .ok (.istore_n 1, 1) := by decide +kernel
theorem d_Text_readPart_12 : decode prog_9_method_9_code 12 = .ok (.aload_n 0, 1) := by decide +kernel
theorem d_Text_readPart_13 : decode prog_9_method_9_code 13 = .ok (.getfield 34, 3) := by decide +kernel
theorem d_Text_readPart_16 : decode prog_9_method_9_code 16 = .ok (.ifCond .lt 4, 3) := by decide +kernel
theorem d_Text_readPart_19 : decode prog_9_method_9_code 19 = .ok (.return_, 1) := by decide +kernel
set_option maxRecDepth 100000 in
theorem c_Text_readPartF {l : Launch} {R W Z : Nat → Nat → Int32} {T : Nat → Nat → Nat} {kn : Kn} {h0 : HP} {u sz op : Nat} {d n : Nat} {Q : QT} {s : PS} {L : List Nat} {o : Option (PS → PS)} (hu : u < 2) (hsz : sz ≤ 50) (hz : Z 1 1 = nI sz) (hB : ∀ j, j < sz → ∃ c, c < 256 ∧ R 2 j = nI c) (h1 : s.1 ≤ sz) (h2 : s.2.2.length ≤ s.1) (hR : RL s L) (hf : s.2.1 = true) (hQ : ∀ L2, RL (utP (R 2) sz (decide (u = 1)) o s) L2 → Q none n (co (uA R (6 + 6 * u + 1) (wrt (R (6 + 6 * u + 1)) 0 (L2))) W (zT Z u (utP (R 2) sz (decide (u = 1)) o s) (L2).length op) T kn h0)) : Ct l M_Text_readPart (d + 2) 0 0 [.ref (3 + 6 * u)] n (co (uA R (6 + 6 * u + 1) (wrt (R (6 + 6 * u + 1)) 0 (L))) W (zT Z u (s) (L).length op) T kn h0) Q := by
  refine Ct.of (fun _ => trivial) (by decide) (Nat.le_of_ble_eq_true rfl) ?_
  refine V.aload_n d_Text_readPart_0 rfl ?_
  refine V.get d_Text_readPart_1 f_Text_41_Text (co_s (sc_tx (tx_ds u hu).1)) rfl ?_
  refine V.aload_n d_Text_readPart_4 rfl ?_
  refine V.get d_Text_readPart_5 f_Text_27_Text (co_s (sc_tx (tx_ds u hu).1)) rfl ?_
  refine V.top (y := nI (s).1) zT_7 ?_
  refine V.callV1 d_Text_readPart_8 k_Text_116_Row_get_RowV (co_s (sc_rw rfl)) (Nat.le_of_ble_eq_true rfl) (by omega) (by omega) (c_Row_get (a := 1) (N := 50) (sz := sz) rfl rfl (zT_1.trans hz) hsz (by decide) ?_)
  refine V.istore_n d_Text_readPart_11 (by decide) ?_
  refine V.aload_n d_Text_readPart_12 rfl ?_
  refine V.get d_Text_readPart_13 f_Text_34_Text (co_s (sc_tx (tx_ds u hu).1)) rfl ?_
  refine V.if_lt (tgt := 20) d_Text_readPart_16 (by decide) (fun c_16 => ?_) (fun c_16 => ?_)
  · skip
    exact absurd ((zT_9i (by omega)).mpr hf) (Int32.not_le.mpr c_16)
  · skip
    refine V.vret d_Text_readPart_19 rfl (Nat.le_of_ble_eq_true rfl) (Nat.le_of_ble_eq_true rfl) ?_
    rw [ut_f hf] at hQ
    exact hQ L hR
theorem d_Text_readPart_20 : decode prog_9_method_9_code 20 = .ok (.iload_n 1, 1) := by decide +kernel
theorem d_Text_readPart_21 : decode prog_9_method_9_code 21 = .ok (.invokestatic 123, 3) := by decide +kernel
theorem d_Text_readPart_24 : decode prog_9_method_9_code 24 = .ok (.ifCond .eq 10, 3) := by decide +kernel
theorem d_Text_readPart_34 : decode prog_9_method_9_code 34 = .ok (.iload_n 1, 1) := by decide +kernel
theorem d_Text_readPart_35 : decode prog_9_method_9_code 35 = .ok (.ifCond .lt 48, 3) := by decide +kernel
theorem d_Text_readPart_83 : decode prog_9_method_9_code 83 = .ok (.iload_n 1, 1) := by decide +kernel
theorem d_Text_readPart_84 : decode prog_9_method_9_code 84 = .ok (.bipush 33, 2) := by decide +kernel
theorem d_Text_readPart_86 : decode prog_9_method_9_code 86 = .ok (.if_icmp .eq 9, 3) := by decide +kernel
theorem d_Text_readPart_95 : decode prog_9_method_9_code 95 = .ok (.aload_n 0, 1) := by decide +kernel
theorem d_Text_readPart_96 : decode prog_9_method_9_code 96 = .ok (.getfield 31, 3) := by decide +kernel
theorem d_Text_readPart_99 : decode prog_9_method_9_code 99 = .ok (.iconst 5, 1) := by decide +kernel
theorem d_Text_readPart_100 : decode prog_9_method_9_code 100 = .ok (.if_icmp .ge 11, 3) := by decide +kernel
theorem d_Text_readPart_111 : decode prog_9_method_9_code 111 = .ok (.aload_n 0, 1) := by decide +kernel
theorem d_Text_readPart_112 : decode prog_9_method_9_code 112 = .ok (.aload_n 0, 1) := by decide +kernel
theorem d_Text_readPart_113 : decode prog_9_method_9_code 113 = .ok (.getfield 27, 3) := by decide +kernel
theorem d_Text_readPart_116 : decode prog_9_method_9_code 116 = .ok (.putfield 34, 3) := by decide +kernel
theorem d_Text_readPart_119 : decode prog_9_method_9_code 119 = .ok (.return_, 1) := by decide +kernel
theorem d_Text_readPart_103 : decode prog_9_method_9_code 103 = .ok (.aload_n 0, 1) := by decide +kernel
theorem d_Text_readPart_104 : decode prog_9_method_9_code 104 = .ok (.iload_n 1, 1) := by decide +kernel
theorem d_Text_readPart_105 : decode prog_9_method_9_code 105 = .ok (.invokevirtual 130, 3) := by decide +kernel
theorem kB_Text_readOpen : kB M_Text_readOpen 1 := ⟨tm 4 (by decide +kernel) rfl, tm 376 (by decide +kernel) rfl, ⟨by decide, by decide, by decide +kernel⟩, by decide⟩
theorem k_Text_130_Text_readOpen_TextV : kV "FelledByNames$Text" 130 3 M_Text_readOpen 1 := ⟨kB_Text_readOpen, tm 373 (by decide +kernel) rfl, tm 375 (by decide +kernel) rfl, tp 3 (by decide +kernel) rfl, _, rfl, rfl⟩
theorem d_Text_readPart_108 : decode prog_9_method_9_code 108 = .ok (.goto 11, 3) := by decide +kernel
theorem d_Text_readPart_89 : decode prog_9_method_9_code 89 = .ok (.iload_n 1, 1) := by decide +kernel
theorem d_Text_readPart_90 : decode prog_9_method_9_code 90 = .ok (.bipush 40, 2) := by decide +kernel
theorem d_Text_readPart_92 : decode prog_9_method_9_code 92 = .ok (.if_icmp .ne 19, 3) := by decide +kernel
theorem d_Text_readPart_38 : decode prog_9_method_9_code 38 = .ok (.aload_n 0, 1) := by decide +kernel
theorem d_Text_readPart_39 : decode prog_9_method_9_code 39 = .ok (.getfield 44, 3) := by decide +kernel
theorem f_Text_44_Text : fok "FelledByNames$Text" 44 3 2 := ⟨R_Text, F_Text, 11, "FelledByNames$Text", rfl, i_Text, by decide, tm 71 (by decide +kernel) rfl, Or.inl rfl, t_Text, t_Text_ok, n_Text⟩
theorem d_Text_readPart_42 : decode prog_9_method_9_code 42 = .ok (.iload_n 1, 1) := by decide +kernel
theorem d_Text_readPart_43 : decode prog_9_method_9_code 43 = .ok (.i2c, 1) := by decide +kernel
theorem d_Text_readPart_44 : decode prog_9_method_9_code 44 = .ok (.invokevirtual 120, 3) := by decide +kernel
theorem d_Text_readPart_47 : decode prog_9_method_9_code 47 = .ok (.ifCond .lt 36, 3) := by decide +kernel
theorem d_Text_readPart_50 : decode prog_9_method_9_code 50 = .ok (.aload_n 0, 1) := by decide +kernel
theorem d_Text_readPart_51 : decode prog_9_method_9_code 51 = .ok (.getfield 20, 3) := by decide +kernel
theorem d_Text_readPart_54 : decode prog_9_method_9_code 54 = .ok (.sipush 10000, 3) := by decide +kernel
theorem d_Text_readPart_57 : decode prog_9_method_9_code 57 = .ok (.aload_n 0, 1) := by decide +kernel
theorem d_Text_readPart_58 : decode prog_9_method_9_code 58 = .ok (.getfield 44, 3) := by decide +kernel
theorem d_Text_readPart_61 : decode prog_9_method_9_code 61 = .ok (.iload_n 1, 1) := by decide +kernel
theorem d_Text_readPart_62 : decode prog_9_method_9_code 62 = .ok (.i2c, 1) := by decide +kernel
theorem d_Text_readPart_63 : decode prog_9_method_9_code 63 = .ok (.invokevirtual 120, 3) := by decide +kernel
theorem d_Text_readPart_66 : decode prog_9_method_9_code 66 = .ok (.iadd, 1) := by decide +kernel
theorem d_Text_readPart_67 : decode prog_9_method_9_code 67 = .ok (.invokevirtual 64, 3) := by decide +kernel
theorem d_Text_readPart_70 : decode prog_9_method_9_code 70 = .ok (.aload_n 0, 1) := by decide +kernel
theorem d_Text_readPart_71 : decode prog_9_method_9_code 71 = .ok (.dup, 1) := by decide +kernel
theorem d_Text_readPart_72 : decode prog_9_method_9_code 72 = .ok (.getfield 27, 3) := by decide +kernel
theorem d_Text_readPart_75 : decode prog_9_method_9_code 75 = .ok (.iconst 1, 1) := by decide +kernel
theorem d_Text_readPart_76 : decode prog_9_method_9_code 76 = .ok (.iadd, 1) := by decide +kernel
theorem d_Text_readPart_77 : decode prog_9_method_9_code 77 = .ok (.putfield 27, 3) := by decide +kernel
theorem d_Text_readPart_80 : decode prog_9_method_9_code 80 = .ok (.goto 39, 3) := by decide +kernel
theorem d_Text_readPart_27 : decode prog_9_method_9_code 27 = .ok (.aload_n 0, 1) := by decide +kernel
theorem d_Text_readPart_28 : decode prog_9_method_9_code 28 = .ok (.invokevirtual 127, 3) := by decide +kernel
theorem kB_Text_readNumber : kB M_Text_readNumber 0 := ⟨tm 4 (by decide +kernel) rfl, tm 315 (by decide +kernel) rfl, ⟨by decide, by decide, by decide +kernel⟩, by decide⟩
theorem k_Text_127_Text_readNumber_TextV : kV "FelledByNames$Text" 127 3 M_Text_readNumber 0 := ⟨kB_Text_readNumber, tm 312 (by decide +kernel) rfl, tm 314 (by decide +kernel) rfl, tp 2 (by decide +kernel) rfl, _, rfl, rfl⟩
theorem d_Text_readPart_31 : decode prog_9_method_9_code 31 = .ok (.goto 88, 3) := by decide +kernel
set_option maxRecDepth 100000 in
theorem c_Text_readPartN {l : Launch} {R W Z : Nat → Nat → Int32} {T : Nat → Nat → Nat} {kn : Kn} {h0 : HP} {u sz op : Nat} {d n : Nat} {Q : QT} {s : PS} {L : List Nat} {o : Option (PS → PS)} (hu : u < 2) (hsz : sz ≤ 50) (hz : Z 1 1 = nI sz) (hB : ∀ j, j < sz → ∃ c, c < 256 ∧ R 2 j = nI c) (h1 : s.1 ≤ sz) (h2 : s.2.2.length ≤ s.1) (hR : RL s L) (hop : op < 100) (hf : s.2.1 = false) (ho : op < 5 → ∀ c, c = 33 ∨ c = 40 → hr (R 2) sz s = nI c → ∀ Q : QT, (∀ L2, RL (opP (R 2) sz o s) L2 → Q none n (co (uA R (6 + 6 * u + 1) (wrt (R (6 + 6 * u + 1)) 0 (L2))) W (zT Z u (opP (R 2) sz o s) (L2).length op) T kn h0)) → Ct l M_Text_readOpen (d + 4) 0 0 [.ref (3 + 6 * u), .int (nI c)] n (co (uA R (6 + 6 * u + 1) (wrt (R (6 + 6 * u + 1)) 0 (L))) W (zT Z u (s) (L).length op) T kn h0) Q) (ho5 : ¬ op < 5 → o = none) (hQ : ∀ L2, RL (utP (R 2) sz (decide (u = 1)) o s) L2 → Q none n (co (uA R (6 + 6 * u + 1) (wrt (R (6 + 6 * u + 1)) 0 (L2))) W (zT Z u (utP (R 2) sz (decide (u = 1)) o s) (L2).length op) T kn h0)) : Ct l M_Text_readPart (d + 5) 0 0 [.ref (3 + 6 * u)] n (co (uA R (6 + 6 * u + 1) (wrt (R (6 + 6 * u + 1)) 0 (L))) W (zT Z u (s) (L).length op) T kn h0) Q := by
  refine Ct.of (fun _ => trivial) (by decide) (Nat.le_of_ble_eq_true rfl) ?_
  refine V.aload_n d_Text_readPart_0 rfl ?_
  refine V.get d_Text_readPart_1 f_Text_41_Text (co_s (sc_tx (tx_ds u hu).1)) rfl ?_
  refine V.aload_n d_Text_readPart_4 rfl ?_
  refine V.get d_Text_readPart_5 f_Text_27_Text (co_s (sc_tx (tx_ds u hu).1)) rfl ?_
  refine V.top (y := nI (s).1) zT_7 ?_
  refine V.callV1 d_Text_readPart_8 k_Text_116_Row_get_RowV (co_s (sc_rw rfl)) (Nat.le_of_ble_eq_true rfl) (by omega) (by omega) (c_Row_get (a := 1) (N := 50) (sz := sz) rfl rfl (zT_1.trans hz) hsz (by decide) ?_)
  refine V.top (y := hr (R 2) sz (s)) (by rw [uA_n (show 1 + 1 ≠ 6 + 6 * u + 1 by omega)]; exact rgt_hr hsz (by omega) hf) ?_
  refine V.istore_n d_Text_readPart_11 (by decide) ?_
  refine V.aload_n d_Text_readPart_12 rfl ?_
  refine V.get d_Text_readPart_13 f_Text_34_Text (co_s (sc_tx (tx_ds u hu).1)) rfl ?_
  refine V.if_lt (tgt := 20) d_Text_readPart_16 (by decide) (fun c_16 => ?_) (fun c_16 => ?_)
  · skip
    refine V.iload_n d_Text_readPart_20 rfl ?_
    refine V.callS1 d_Text_readPart_21 k_Text_123_Text_isDigitS (Nat.le_of_ble_eq_true rfl) (by omega) (by omega) (c_Text_isDigit ?_)
    refine V.ifeqB (tgt := 34) d_Text_readPart_24 (by decide) (fun c_24 => ?_) (fun c_24 => ?_)
    · skip
      refine V.iload_n d_Text_readPart_34 rfl ?_
      refine V.if_lt (tgt := 83) d_Text_readPart_35 (by decide) (fun c_35 => ?_) (fun c_35 => ?_)
      · skip
        refine V.iload_n d_Text_readPart_83 rfl ?_
        refine V.bipush_ (nI 33) d_Text_readPart_84 (by decide +kernel) ?_
        refine V.icmp_eq (tgt := 95) d_Text_readPart_86 (by decide) (fun c_86 => ?_) (fun c_86 => ?_)
        · skip
          refine V.aload_n d_Text_readPart_95 rfl ?_
          refine V.get d_Text_readPart_96 f_Text_31_Text (co_s (sc_tx (tx_ds u hu).1)) rfl ?_
          refine V.top (y := nI (op)) zT_8 ?_
          refine V.iconst_ (nI 5) d_Text_readPart_99 (by decide +kernel) ?_
          refine V.geN (tgt := 111) d_Text_readPart_100 (by decide) (by omega) (by omega) (fun c_100 => ?_) (fun c_100 => ?_)
          · skip
            refine V.aload_n d_Text_readPart_111 rfl ?_
            refine V.aload_n d_Text_readPart_112 rfl ?_
            refine V.get d_Text_readPart_113 f_Text_27_Text (co_s (sc_tx (tx_ds u hu).1)) rfl ?_
            refine V.top (y := nI (s).1) zT_7 ?_
            refine V.put d_Text_readPart_116 f_Text_34_Text fp_Text_9 (fun _ => rfl) (fun _ => rfl) (co_s (sc_tx (tx_ds u hu).1)) (Nat.le_of_ble_eq_true rfl) ?_
            refine V.eqH (co_utx (u := u) (k := 9) hu (by decide)) ?_
            rw [zT_wg hf]
            refine V.vret d_Text_readPart_119 rfl (Nat.le_of_ble_eq_true rfl) (Nat.le_of_ble_eq_true rfl) ?_
            rw [ut_op (Or.inl c_86), ho5 (by omega)] at hQ
            exact hQ L (RL_wg hR)
          · skip
            refine V.aload_n d_Text_readPart_103 rfl ?_
            refine V.iload_n d_Text_readPart_104 rfl ?_
            refine V.top (y := nI 33) c_86 ?_
            refine V.callV1 d_Text_readPart_105 k_Text_130_Text_readOpen_TextV (co_s (sc_tx (tx_ds u hu).1)) (Nat.le_of_ble_eq_true rfl) (by omega) (by omega) (ho c_100 33 (Or.inl rfl) c_86 _ (fun L2 hR2 => ?_))
            refine V.goto (tgt := 119) d_Text_readPart_108 (by decide) ?_
            refine V.vret d_Text_readPart_119 rfl (Nat.le_of_ble_eq_true rfl) (Nat.le_of_ble_eq_true rfl) ?_
            rw [ut_op (Or.inl c_86)] at hQ
            exact hQ L2 hR2
        · skip
          refine V.iload_n d_Text_readPart_89 rfl ?_
          refine V.bipush_ (nI 40) d_Text_readPart_90 (by decide +kernel) ?_
          refine V.icmp_ne (tgt := 111) d_Text_readPart_92 (by decide) (fun c_92 => ?_) (fun c_92 => ?_)
          · skip
            refine V.aload_n d_Text_readPart_111 rfl ?_
            refine V.aload_n d_Text_readPart_112 rfl ?_
            refine V.get d_Text_readPart_113 f_Text_27_Text (co_s (sc_tx (tx_ds u hu).1)) rfl ?_
            refine V.top (y := nI (s).1) zT_7 ?_
            refine V.put d_Text_readPart_116 f_Text_34_Text fp_Text_9 (fun _ => rfl) (fun _ => rfl) (co_s (sc_tx (tx_ds u hu).1)) (Nat.le_of_ble_eq_true rfl) ?_
            refine V.eqH (co_utx (u := u) (k := 9) hu (by decide)) ?_
            rw [zT_wg hf]
            refine V.vret d_Text_readPart_119 rfl (Nat.le_of_ble_eq_true rfl) (Nat.le_of_ble_eq_true rfl) ?_
            rw [ut_no (fun z => z.elim c_86 c_92) (by rw [(hr_by (f := R 2) (sz := sz) (s := s) hB).resolve_right (fun ⟨c, hc, ec⟩ => absurd c_35 (by rw [ec]; exact Int32.not_lt.mpr ((nI_leI (a := 0) (by decide) (by omega)).mpr (Nat.zero_le _))))]; exact nmo_m1 _) c_24] at hQ
            exact hQ L (RL_wg hR)
          · skip
            refine V.aload_n d_Text_readPart_95 rfl ?_
            refine V.get d_Text_readPart_96 f_Text_31_Text (co_s (sc_tx (tx_ds u hu).1)) rfl ?_
            refine V.top (y := nI (op)) zT_8 ?_
            refine V.iconst_ (nI 5) d_Text_readPart_99 (by decide +kernel) ?_
            refine V.geN (tgt := 111) d_Text_readPart_100 (by decide) (by omega) (by omega) (fun c_100 => ?_) (fun c_100 => ?_)
            · skip
              refine V.aload_n d_Text_readPart_111 rfl ?_
              refine V.aload_n d_Text_readPart_112 rfl ?_
              refine V.get d_Text_readPart_113 f_Text_27_Text (co_s (sc_tx (tx_ds u hu).1)) rfl ?_
              refine V.top (y := nI (s).1) zT_7 ?_
              refine V.put d_Text_readPart_116 f_Text_34_Text fp_Text_9 (fun _ => rfl) (fun _ => rfl) (co_s (sc_tx (tx_ds u hu).1)) (Nat.le_of_ble_eq_true rfl) ?_
              refine V.eqH (co_utx (u := u) (k := 9) hu (by decide)) ?_
              rw [zT_wg hf]
              refine V.vret d_Text_readPart_119 rfl (Nat.le_of_ble_eq_true rfl) (Nat.le_of_ble_eq_true rfl) ?_
              rw [ut_op (Or.inr c_92), ho5 (by omega)] at hQ
              exact hQ L (RL_wg hR)
            · skip
              refine V.aload_n d_Text_readPart_103 rfl ?_
              refine V.iload_n d_Text_readPart_104 rfl ?_
              refine V.top (y := nI 40) c_92 ?_
              refine V.callV1 d_Text_readPart_105 k_Text_130_Text_readOpen_TextV (co_s (sc_tx (tx_ds u hu).1)) (Nat.le_of_ble_eq_true rfl) (by omega) (by omega) (ho c_100 40 (Or.inr rfl) c_92 _ (fun L2 hR2 => ?_))
              refine V.goto (tgt := 119) d_Text_readPart_108 (by decide) ?_
              refine V.vret d_Text_readPart_119 rfl (Nat.le_of_ble_eq_true rfl) (Nat.le_of_ble_eq_true rfl) ?_
              rw [ut_op (Or.inr c_92)] at hQ
              exact hQ L2 hR2
      · skip
        obtain ⟨c, hc, ec⟩ := (hr_by (f := R 2) (sz := sz) (s := s) hB).resolve_left (fun z => c_35 (by rw [z]; decide))
        have hx := (hr_lt (by omega) ec).1
        have hi : u < 10 := by omega
        refine V.aload_n d_Text_readPart_38 rfl ?_
        refine V.get d_Text_readPart_39 f_Text_44_Text (co_s (sc_tx (tx_ds u hu).1)) rfl ?_
        refine V.iload_n d_Text_readPart_42 rfl ?_
        refine V.top (y := nI c) ec ?_
        refine V.i2c d_Text_readPart_43 ?_
        refine V.top (y := nI c) (i2c_b c hc) ?_
        refine V.callK1 d_Text_readPart_44 k_Text_120_Str_indexOfK hi (Nat.le_of_ble_eq_true rfl) (by omega) (by omega) (c_Str_indexOf1 hi hc ?_)
        refine V.if_lt (tgt := 83) d_Text_readPart_47 (by decide) (fun c_47 => ?_) (fun c_47 => ?_)
        · skip
          refine V.iload_n d_Text_readPart_83 rfl ?_
          refine V.bipush_ (nI 33) d_Text_readPart_84 (by decide +kernel) ?_
          refine V.icmp_eq (tgt := 95) d_Text_readPart_86 (by decide) (fun c_86 => ?_) (fun c_86 => ?_)
          · skip
            refine V.aload_n d_Text_readPart_95 rfl ?_
            refine V.get d_Text_readPart_96 f_Text_31_Text (co_s (sc_tx (tx_ds u hu).1)) rfl ?_
            refine V.top (y := nI (op)) zT_8 ?_
            refine V.iconst_ (nI 5) d_Text_readPart_99 (by decide +kernel) ?_
            refine V.geN (tgt := 111) d_Text_readPart_100 (by decide) (by omega) (by omega) (fun c_100 => ?_) (fun c_100 => ?_)
            · skip
              refine V.aload_n d_Text_readPart_111 rfl ?_
              refine V.aload_n d_Text_readPart_112 rfl ?_
              refine V.get d_Text_readPart_113 f_Text_27_Text (co_s (sc_tx (tx_ds u hu).1)) rfl ?_
              refine V.top (y := nI (s).1) zT_7 ?_
              refine V.put d_Text_readPart_116 f_Text_34_Text fp_Text_9 (fun _ => rfl) (fun _ => rfl) (co_s (sc_tx (tx_ds u hu).1)) (Nat.le_of_ble_eq_true rfl) ?_
              refine V.eqH (co_utx (u := u) (k := 9) hu (by decide)) ?_
              rw [zT_wg hf]
              refine V.vret d_Text_readPart_119 rfl (Nat.le_of_ble_eq_true rfl) (Nat.le_of_ble_eq_true rfl) ?_
              rw [ut_op (Or.inl c_86), ho5 (by omega)] at hQ
              exact hQ L (RL_wg hR)
            · skip
              refine V.aload_n d_Text_readPart_103 rfl ?_
              refine V.iload_n d_Text_readPart_104 rfl ?_
              refine V.top (y := nI 33) c_86 ?_
              refine V.callV1 d_Text_readPart_105 k_Text_130_Text_readOpen_TextV (co_s (sc_tx (tx_ds u hu).1)) (Nat.le_of_ble_eq_true rfl) (by omega) (by omega) (ho c_100 33 (Or.inl rfl) c_86 _ (fun L2 hR2 => ?_))
              refine V.goto (tgt := 119) d_Text_readPart_108 (by decide) ?_
              refine V.vret d_Text_readPart_119 rfl (Nat.le_of_ble_eq_true rfl) (Nat.le_of_ble_eq_true rfl) ?_
              rw [ut_op (Or.inl c_86)] at hQ
              exact hQ L2 hR2
          · skip
            refine V.iload_n d_Text_readPart_89 rfl ?_
            refine V.bipush_ (nI 40) d_Text_readPart_90 (by decide +kernel) ?_
            refine V.icmp_ne (tgt := 111) d_Text_readPart_92 (by decide) (fun c_92 => ?_) (fun c_92 => ?_)
            · skip
              refine V.aload_n d_Text_readPart_111 rfl ?_
              refine V.aload_n d_Text_readPart_112 rfl ?_
              refine V.get d_Text_readPart_113 f_Text_27_Text (co_s (sc_tx (tx_ds u hu).1)) rfl ?_
              refine V.top (y := nI (s).1) zT_7 ?_
              refine V.put d_Text_readPart_116 f_Text_34_Text fp_Text_9 (fun _ => rfl) (fun _ => rfl) (co_s (sc_tx (tx_ds u hu).1)) (Nat.le_of_ble_eq_true rfl) ?_
              refine V.eqH (co_utx (u := u) (k := 9) hu (by decide)) ?_
              rw [zT_wg hf]
              refine V.vret d_Text_readPart_119 rfl (Nat.le_of_ble_eq_true rfl) (Nat.le_of_ble_eq_true rfl) ?_
              rw [ut_no (fun z => z.elim c_86 c_92) (by rw [ec]; exact (nmo_ix u hu c hc).2 (Int32.not_le.mpr c_47)) c_24] at hQ
              exact hQ L (RL_wg hR)
            · skip
              refine V.aload_n d_Text_readPart_95 rfl ?_
              refine V.get d_Text_readPart_96 f_Text_31_Text (co_s (sc_tx (tx_ds u hu).1)) rfl ?_
              refine V.top (y := nI (op)) zT_8 ?_
              refine V.iconst_ (nI 5) d_Text_readPart_99 (by decide +kernel) ?_
              refine V.geN (tgt := 111) d_Text_readPart_100 (by decide) (by omega) (by omega) (fun c_100 => ?_) (fun c_100 => ?_)
              · skip
                refine V.aload_n d_Text_readPart_111 rfl ?_
                refine V.aload_n d_Text_readPart_112 rfl ?_
                refine V.get d_Text_readPart_113 f_Text_27_Text (co_s (sc_tx (tx_ds u hu).1)) rfl ?_
                refine V.top (y := nI (s).1) zT_7 ?_
                refine V.put d_Text_readPart_116 f_Text_34_Text fp_Text_9 (fun _ => rfl) (fun _ => rfl) (co_s (sc_tx (tx_ds u hu).1)) (Nat.le_of_ble_eq_true rfl) ?_
                refine V.eqH (co_utx (u := u) (k := 9) hu (by decide)) ?_
                rw [zT_wg hf]
                refine V.vret d_Text_readPart_119 rfl (Nat.le_of_ble_eq_true rfl) (Nat.le_of_ble_eq_true rfl) ?_
                rw [ut_op (Or.inr c_92), ho5 (by omega)] at hQ
                exact hQ L (RL_wg hR)
              · skip
                refine V.aload_n d_Text_readPart_103 rfl ?_
                refine V.iload_n d_Text_readPart_104 rfl ?_
                refine V.top (y := nI 40) c_92 ?_
                refine V.callV1 d_Text_readPart_105 k_Text_130_Text_readOpen_TextV (co_s (sc_tx (tx_ds u hu).1)) (Nat.le_of_ble_eq_true rfl) (by omega) (by omega) (ho c_100 40 (Or.inr rfl) c_92 _ (fun L2 hR2 => ?_))
                refine V.goto (tgt := 119) d_Text_readPart_108 (by decide) ?_
                refine V.vret d_Text_readPart_119 rfl (Nat.le_of_ble_eq_true rfl) (Nat.le_of_ble_eq_true rfl) ?_
                rw [ut_op (Or.inr c_92)] at hQ
                exact hQ L2 hR2
        · skip
          refine V.aload_n d_Text_readPart_50 rfl ?_
          refine V.get d_Text_readPart_51 f_Text_20_Text (co_s (sc_tx (tx_ds u hu).1)) rfl ?_
          refine V.sipush_ (nI 10000) d_Text_readPart_54 (by decide +kernel) ?_
          refine V.aload_n d_Text_readPart_57 rfl ?_
          refine V.get d_Text_readPart_58 f_Text_44_Text (co_s (sc_tx (tx_ds u hu).1)) rfl ?_
          refine V.iload_n d_Text_readPart_61 rfl ?_
          refine V.top (y := nI c) ec ?_
          refine V.i2c d_Text_readPart_62 ?_
          refine V.top (y := nI c) (i2c_b c hc) ?_
          refine V.callK1 d_Text_readPart_63 k_Text_120_Str_indexOfK hi (Nat.le_of_ble_eq_true rfl) (by omega) (by omega) (c_Str_indexOf1 hi hc ?_)
          obtain ⟨en, ek⟩ := (nmo_ix u hu c hc).1 (Int32.not_lt.mp c_47)
          refine V.top (y := nI (ixv u c).toNatClampNeg) ek ?_
          refine V.addN d_Text_readPart_66 ?_
          refine V.callV1 d_Text_readPart_67 k_Text_64_Row_add_RowV (co_s (sc_rw (tx_ds u hu).2.2.2.1)) (Nat.le_of_ble_eq_true rfl) (by omega) (by omega) (c_draft (v := 10000 + (ixv u c).toNatClampNeg) (s := s) hu hR (fun _ => by omega) (fun L2 hR2 => ?_))
          rw [zT_ly]
          refine V.aload_n d_Text_readPart_70 rfl ?_
          refine V.dup rfl d_Text_readPart_71 ?_
          refine V.get d_Text_readPart_72 f_Text_27_Text (co_s (sc_tx (tx_ds u hu).1)) rfl ?_
          refine V.top (y := nI (s).1) zT_7 ?_
          refine V.iconst_ (nI 1) d_Text_readPart_75 (by decide +kernel) ?_
          refine V.addN d_Text_readPart_76 ?_
          refine V.put d_Text_readPart_77 f_Text_27_Text fp_Text_7 (fun _ => rfl) (fun _ => rfl) (co_s (sc_tx (tx_ds u hu).1)) (Nat.le_of_ble_eq_true rfl) ?_
          refine V.eqH (co_utx (u := u) (k := 7) hu (by decide)) ?_
          rw [zT_at hf]
          refine V.goto (tgt := 119) d_Text_readPart_80 (by decide) ?_
          refine V.vret d_Text_readPart_119 rfl (Nat.le_of_ble_eq_true rfl) (Nat.le_of_ble_eq_true rfl) ?_
          rw [ut_nm (k := (ixv u c).toNatClampNeg) (by rw [ec]; exact en)] at hQ
          have h := hQ L2 (RL_2 hR2 ly_adv2)
          rw [zT_ly] at h
          exact h
    · skip
      refine V.aload_n d_Text_readPart_27 rfl ?_
      refine V.callV0 d_Text_readPart_28 k_Text_127_Text_readNumber_TextV (co_s (sc_tx (tx_ds u hu).1)) (Nat.le_of_ble_eq_true rfl) (by omega) (by omega) (c_Text_readNumber hu hsz hz hB h1 h2 hR hf c_24 (fun L2 hR2 => ?_))
      refine V.goto (tgt := 119) d_Text_readPart_31 (by decide) ?_
      refine V.vret d_Text_readPart_119 rfl (Nat.le_of_ble_eq_true rfl) (Nat.le_of_ble_eq_true rfl) ?_
      rw [ut_dig c_24] at hQ
      exact hQ L2 hR2
  · skip
    exact absurd c_16 (by rw [zT_9f hf]; decide)
theorem c_Text_readPart {l : Launch} {R W Z : Nat → Nat → Int32} {T : Nat → Nat → Nat} {kn : Kn} {h0 : HP} {u sz op : Nat} {d n : Nat} {Q : QT} {s : PS} {L : List Nat} {o : Option (PS → PS)} (hu : u < 2) (hsz : sz ≤ 50) (hz : Z 1 1 = nI sz) (hB : ∀ j, j < sz → ∃ c, c < 256 ∧ R 2 j = nI c) (h1 : s.1 ≤ sz) (h2 : s.2.2.length ≤ s.1) (hR : RL s L) (hop : op < 100) (ho : op < 5 → ∀ c, c = 33 ∨ c = 40 → hr (R 2) sz s = nI c → ∀ Q : QT, (∀ L2, RL (opP (R 2) sz o s) L2 → Q none n (co (uA R (6 + 6 * u + 1) (wrt (R (6 + 6 * u + 1)) 0 (L2))) W (zT Z u (opP (R 2) sz o s) (L2).length op) T kn h0)) → Ct l M_Text_readOpen (d + 4) 0 0 [.ref (3 + 6 * u), .int (nI c)] n (co (uA R (6 + 6 * u + 1) (wrt (R (6 + 6 * u + 1)) 0 (L))) W (zT Z u (s) (L).length op) T kn h0) Q) (ho5 : ¬ op < 5 → o = none) (hQ : ∀ L2, RL (utP (R 2) sz (decide (u = 1)) o s) L2 → Q none n (co (uA R (6 + 6 * u + 1) (wrt (R (6 + 6 * u + 1)) 0 (L2))) W (zT Z u (utP (R 2) sz (decide (u = 1)) o s) (L2).length op) T kn h0)) : Ct l M_Text_readPart (d + 5) 0 0 [.ref (3 + 6 * u)] n (co (uA R (6 + 6 * u + 1) (wrt (R (6 + 6 * u + 1)) 0 (L))) W (zT Z u (s) (L).length op) T kn h0) Q := by
  cases hf : s.2.1 with
  | true => exact c_Text_readPartF hu hsz hz hB h1 h2 hR hf hQ
  | false => exact c_Text_readPartN hu hsz hz hB h1 h2 hR hop hf ho ho5 hQ
