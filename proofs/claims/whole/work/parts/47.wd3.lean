def TX (R Z : Nat → Nat → Int32) (u : Nat) (Wc : Nat → Nat) (len : Nat) : Prop := Wf Wc len ∧ Z (4 + 6 * u) 1 = nI len ∧ ∀ k, k < len → R (4 + 6 * u + 1) k = nI (Wc k)
def PR (R Z : Nat → Nat → Int32) (w np : Nat) (ps : Nat → Nat) : Prop := np ≤ 36 ∧ Z (wb w + 7) 1 = nI np ∧ ∀ i, i < np → ps i < 36 ∧ R (wb w + 7 + 1) i = nI (ps i)
/-- what days of the world w leave as it is -/
def FR (w : Nat) (R Z W R1 Z1 W1 : Nat → Nat → Int32) : Prop := (∀ a, a ≠ 8 → a ≠ 14 → a ≠ wb w + 5 → a ≠ wb w + 6 → R1 a = R a) ∧ (∀ b j, ¬ (b = wb w + 4 ∧ j = 1) → Z1 b j = Z b j) ∧ ∀ v, v ≠ w → W1 v = W v
theorem FR.id {w : Nat} {R Z W : Nat → Nat → Int32} : FR w R Z W R Z W := ⟨fun _ _ _ _ _ => rfl, fun _ _ _ => rfl, fun _ _ => rfl⟩
theorem FR.tr {w : Nat} {R Z W R1 Z1 W1 R2 Z2 W2 : Nat → Nat → Int32} (h : FR w R Z W R1 Z1 W1) (g : FR w R1 Z1 W1 R2 Z2 W2) : FR w R Z W R2 Z2 W2 := ⟨fun a h1 h2 h3 h4 => (g.1 a h1 h2 h3 h4).trans (h.1 a h1 h2 h3 h4), fun b j h1 => (g.2.1 b j h1).trans (h.2.1 b j h1), fun v hv => (g.2.2 v hv).trans (h.2.2 v hv)⟩
theorem FR.tx {w u len : Nat} {Wc : Nat → Nat} {R Z W R1 Z1 W1 : Nat → Nat → Int32} (h : FR w R Z W R1 Z1 W1) (hu : u < 2) (g : TX R Z u Wc len) : TX R1 Z1 u Wc len := by
  have hwb := wb_big w
  exact ⟨g.1, by rw [h.2.1 _ _ (by omega)]; exact g.2.1, fun k hk => by rw [h.1 _ (by omega) (by omega) (by omega) (by omega)]; exact g.2.2 k hk⟩
theorem FR.pr {w np : Nat} {ps : Nat → Nat} {R Z W R1 Z1 W1 : Nat → Nat → Int32} (h : FR w R Z W R1 Z1 W1) (g : PR R Z w np ps) : PR R1 Z1 w np ps := by
  have hwb := wb_big w
  exact ⟨g.1, by rw [h.2.1 _ _ (by omega)]; exact g.2.1, fun k hk => ⟨(g.2.2 k hk).1, by rw [h.1 _ (by omega) (by omega) (by omega) (by omega)]; exact (g.2.2 k hk).2⟩⟩
theorem cst_c {D E : Nat → Int32} : ∀ N, (∀ k, k < N → E (50 + 7 * k + 6) = D (50 + 7 * k + 6)) → cst E N = cst D N := by
  intro N
  induction N with
  | zero => intro _; rfl
  | succ N ih => intro h; simp only [cst]; rw [ih (fun k hk => h k (by omega)), h N (by omega)]
theorem f3_cnt {wv : Int32 → Int32 → Int32 → Int32} {N : Nat} {X : XX} : ∀ k, k ≤ N → (itr (fst3 wv N) k X).2.length + cst (itr (fst3 wv N) k X).1 N = X.2.length + cst X.1 N := by
  intro k
  induction k with
  | zero => intro _; rfl
  | succ k ih =>
    intro hk
    show (fst3 wv N k (itr (fst3 wv N) k X)).2.length + cst (fst3 wv N k (itr (fst3 wv N) k X)).1 N = _
    unfold fst3
    split
    · next h =>
      rw [ovr_2, Bool.and_eq_true, decide_eq_true_eq] at h
      rw [fl_cnt 7 k _ (by omega) h.1]; exact ih (by omega)
    · exact ih (by omega)
theorem f3_keep {wv : Int32 → Int32 → Int32 → Int32} {N j : Nat} {X : XX} (h3 : ¬ j = 3) (h4 : ¬ j = 4) (hj : j < 50 ∨ ¬ (j - 50) % 7 = 6) : ∀ k, (itr (fst3 wv N) k X).1 j = X.1 j := by
  intro k
  induction k with
  | zero => rfl
  | succ k ih =>
    show (fst3 wv N k (itr (fst3 wv N) k X)).1 j = _
    unfold fst3
    split
    · rw [fl_keep h3 h4 hj]; exact ih
    · exact ih
theorem f3_k {wv : Int32 → Int32 → Int32 → Int32} {N j k : Nat} {D : Nat → Int32} {L : List Nat} (h3 : ¬ j = 3) (h4 : ¬ j = 4) (hj : j < 50 ∨ ¬ (j - 50) % 7 = 6) : (itr (fst3 wv N) k (D, L)).1 j = D j := f3_keep (X := (D, L)) h3 h4 hj k
theorem dayG_n {wv : Int32 → Int32 → Int32 → Int32} {N j : Nat} {D : Nat → Int32} (h : j ≠ 1) : (dayG wv N D).1 j = (itr (fst3 wv N) N (dg2 D N, [])).1 j := by
  show upd (itr (fst3 wv N) N (dg2 D N, [])).1 1 ((itr (fst3 wv N) N (dg2 D N, [])).1 1 + nI 1) j = _
  exact pk_un h
theorem dayG_cnt {wv : Int32 → Int32 → Int32 → Int32} {N : Nat} {D : Nat → Int32} : (dayG wv N D).2.length + cst (dayG wv N D).1 N = cst D N := by
  have h := f3_cnt (wv := wv) (N := N) (X := (dg2 D N, [])) N (Nat.le_refl _)
  have e1 : cst (dayG wv N D).1 N = cst (itr (fst3 wv N) N (dg2 D N, [])).1 N := cst_c N (fun k hk => dayG_n (by omega))
  have e2 : cst (dg2 D N) N = cst D N := cst_c N (fun k hk => dg2_x (by omega))
  rw [e1]
  show (itr (fst3 wv N) N (dg2 D N, [])).2.length + _ = _
  rw [h, ← e2]
  exact Nat.zero_add _
theorem dayG_1 {wv : Int32 → Int32 → Int32 → Int32} {N : Nat} {D : Nat → Int32} : (dayG wv N D).1 1 = D 1 + nI 1 := by
  show upd (itr (fst3 wv N) N (dg2 D N, [])).1 1 ((itr (fst3 wv N) N (dg2 D N, [])).1 1 + nI 1) 1 = _
  rw [pk_us, f3_k (by omega) (by omega) (by omega), dg2_x (by omega)]
theorem dayG_0 {wv : Int32 → Int32 → Int32 → Int32} {N : Nat} {D : Nat → Int32} : (dayG wv N D).1 0 = D 0 := by
  rw [dayG_n (by omega), f3_k (by omega) (by omega) (by omega), dg2_x (by omega)]
theorem hts_d {D E : Nat → Int32} : ∀ (L : List Nat) (f : Nat → Int32), (∀ t, t ∈ L → ∀ p, hitb E t p = hitb D t p) → hts E L f = hts D L f := by
  intro L
  induction L with
  | nil => intro f _; rfl
  | cons t L ih =>
    intro f h
    show hts E L (hitF E t f) = hts D L (hitF D t f)
    rw [ih _ (fun s hs => h s (List.mem_cons_of_mem _ hs))]
    congr 1
    funext p
    unfold hitF
    rw [h t List.mem_cons_self]
theorem hitb_d {D E : Nat → Int32} {t p : Nat} (h0 : E (50 + 7 * t + 0) = D (50 + 7 * t + 0)) (h4 : E (50 + 7 * t + 4) = D (50 + 7 * t + 4)) (h5 : E (50 + 7 * t + 5) = D (50 + 7 * t + 5)) : hitb E t p = hitb D t p := by
  unfold hitb rcN plN tN
  rw [h0, h4, h5]
def dsG (cv wv : Int32 → Int32 → Int32 → Int32) (N : Nat) (ps : Nat → Nat) (np : Nat) (D : Nat → Int32) : Nat → XX := fun k => itr (fun _ X => ((dayG wv N (clI cv ps X.1 np)).1, X.2 ++ (dayG wv N (clI cv ps X.1 np)).2)) k (D, [])
def dsH (cv wv : Int32 → Int32 → Int32 → Int32) (N : Nat) (ps : Nat → Nat) (np : Nat) (D : Nat → Int32) (f : Nat → Int32) : Nat → Nat → Int32 := fun k => itr (fun j g => hts (dsG cv wv N ps np D (j + 1)).1 (dayG wv N (clI cv ps (dsG cv wv N ps np D j).1 np)).2 g) k f
theorem dsG_s {cv wv : Int32 → Int32 → Int32 → Int32} {N : Nat} {ps : Nat → Nat} {np : Nat} {D : Nat → Int32} {k : Nat} : dsG cv wv N ps np D (k + 1) = ((dayG wv N (clI cv ps (dsG cv wv N ps np D k).1 np)).1, (dsG cv wv N ps np D k).2 ++ (dayG wv N (clI cv ps (dsG cv wv N ps np D k).1 np)).2) := rfl
theorem dsG_i {cv wv : Int32 → Int32 → Int32 → Int32} {N : Nat} {ps : Nat → Nat} {np : Nat} {D : Nat → Int32} (hN : N ≤ 8) (hB : WB D) (hp : ∀ i, i < np → ps i < 36) : ∀ k, WB (dsG cv wv N ps np D k).1 ∧ (dsG cv wv N ps np D k).1 0 = D 0 ∧ (dsG cv wv N ps np D k).1 1 = D 1 + nI k ∧ (dsG cv wv N ps np D k).2.length + cst (dsG cv wv N ps np D k).1 N = cst D N := by
  intro k
  induction k with
  | zero =>
    refine ⟨hB, rfl, ?_, Nat.zero_add _⟩
    show D 1 = D 1 + nI 0
    rw [nI_0, Int32.add_zero]
  | succ k ih =>
    obtain ⟨h1, h2, h3, h4⟩ := ih
    rw [dsG_s]
    refine ⟨WB.dg hN (h1.cl np hp), ?_, ?_, ?_⟩
    · show (dayG wv N (clI cv ps (dsG cv wv N ps np D k).1 np)).1 0 = _
      rw [dayG_0, clI_x (by omega) np hp, h2]
    · show (dayG wv N (clI cv ps (dsG cv wv N ps np D k).1 np)).1 1 = _
      rw [dayG_1, clI_x (by omega) np hp, h3, ← nI_add, Int32.add_assoc]
    · show ((dsG cv wv N ps np D k).2 ++ (dayG wv N (clI cv ps (dsG cv wv N ps np D k).1 np)).2).length + cst (dayG wv N (clI cv ps (dsG cv wv N ps np D k).1 np)).1 N = _
      have e := dayG_cnt (wv := wv) (N := N) (D := clI cv ps (dsG cv wv N ps np D k).1 np)
      have e2 : cst (clI cv ps (dsG cv wv N ps np D k).1 np) N = cst (dsG cv wv N ps np D k).1 N := cst_c N (fun j _ => clI_x (by omega) np hp)
      rw [List.length_append]
      omega
abbrev M_World_passDay : MD := (⟨"FelledByNames$World", "passDay", "()V"⟩, prog_12_method_10_code, 3, none, fun _ => True)
theorem d_World_passDay_0 : decode prog_12_method_10_code 0 = .ok (.aload_n 0, 1) := by decide +kernel
theorem d_World_passDay_1 : decode prog_12_method_10_code 1 = .ok (.invokevirtual 126, 3) := by decide +kernel
theorem kB_World_cool : kB M_World_cool 0 := ⟨tm 5 (by decide +kernel) rfl, tm 716 (by decide +kernel) rfl, ⟨by decide, by decide, by decide +kernel⟩, by decide⟩
theorem k_World_126_World_cool_WorldV : kV "FelledByNames$World" 126 4 M_World_cool 0 := ⟨kB_World_cool, tm 713 (by decide +kernel) rfl, tm 715 (by decide +kernel) rfl, tp 8 (by decide +kernel) rfl, _, rfl, rfl⟩
theorem d_World_passDay_4 : decode prog_12_method_10_code 4 = .ok (.iconst 0, 1) := by decide +kernel
theorem d_World_passDay_5 : decode prog_12_method_10_code 5 = .ok (.istore_n 1, 1) := by decide +kernel
theorem d_World_passDay_6 : decode prog_12_method_10_code 6 = .ok (.iload_n 1, 1) := by decide +kernel
theorem d_World_passDay_7 : decode prog_12_method_10_code 7 = .ok (.aload_n 0, 1) := by decide +kernel
theorem d_World_passDay_8 : decode prog_12_method_10_code 8 = .ok (.getfield 24, 3) := by decide +kernel
theorem d_World_passDay_11 : decode prog_12_method_10_code 11 = .ok (.if_icmp .ge 45, 3) := by decide +kernel
theorem d_World_passDay_56 : decode prog_12_method_10_code 56 = .ok (.iconst 0, 1) := by decide +kernel
theorem d_World_passDay_57 : decode prog_12_method_10_code 57 = .ok (.istore_n 1, 1) := by decide +kernel
theorem d_World_passDay_58 : decode prog_12_method_10_code 58 = .ok (.iload_n 1, 1) := by decide +kernel
theorem d_World_passDay_59 : decode prog_12_method_10_code 59 = .ok (.aload_n 0, 1) := by decide +kernel
theorem d_World_passDay_60 : decode prog_12_method_10_code 60 = .ok (.getfield 24, 3) := by decide +kernel
theorem d_World_passDay_63 : decode prog_12_method_10_code 63 = .ok (.if_icmp .ge 37, 3) := by decide +kernel
theorem d_World_passDay_100 : decode prog_12_method_10_code 100 = .ok (.aload_n 0, 1) := by decide +kernel
theorem d_World_passDay_101 : decode prog_12_method_10_code 101 = .ok (.dup, 1) := by decide +kernel
theorem d_World_passDay_102 : decode prog_12_method_10_code 102 = .ok (.getfield 28, 3) := by decide +kernel
theorem d_World_passDay_105 : decode prog_12_method_10_code 105 = .ok (.iconst 1, 1) := by decide +kernel
theorem d_World_passDay_106 : decode prog_12_method_10_code 106 = .ok (.iadd, 1) := by decide +kernel
theorem d_World_passDay_107 : decode prog_12_method_10_code 107 = .ok (.putfield 28, 3) := by decide +kernel
theorem fp_World_6 : fpk 4 6 (.int) := ⟨_, _, _, rfl, rfl, by decide +kernel⟩
theorem d_World_passDay_110 : decode prog_12_method_10_code 110 = .ok (.return_, 1) := by decide +kernel
theorem d_World_passDay_66 : decode prog_12_method_10_code 66 = .ok (.aload_n 0, 1) := by decide +kernel
theorem d_World_passDay_67 : decode prog_12_method_10_code 67 = .ok (.getfield 20, 3) := by decide +kernel
theorem d_World_passDay_70 : decode prog_12_method_10_code 70 = .ok (.iload_n 1, 1) := by decide +kernel
theorem d_World_passDay_71 : decode prog_12_method_10_code 71 = .ok (.aaload, 1) := by decide +kernel
theorem d_World_passDay_72 : decode prog_12_method_10_code 72 = .ok (.astore_n 2, 1) := by decide +kernel
theorem d_World_passDay_73 : decode prog_12_method_10_code 73 = .ok (.aload_n 2, 1) := by decide +kernel
theorem d_World_passDay_74 : decode prog_12_method_10_code 74 = .ok (.getfield 110, 3) := by decide +kernel
theorem d_World_passDay_77 : decode prog_12_method_10_code 77 = .ok (.ifCond .eq 17, 3) := by decide +kernel
theorem d_World_passDay_94 : decode prog_12_method_10_code 94 = .ok (.iinc 1 1, 3) := by decide +kernel
theorem d_World_passDay_97 : decode prog_12_method_10_code 97 = .ok (.goto (-39), 3) := by decide +kernel
theorem d_World_passDay_80 : decode prog_12_method_10_code 80 = .ok (.aload_n 0, 1) := by decide +kernel
theorem d_World_passDay_81 : decode prog_12_method_10_code 81 = .ok (.aload_n 2, 1) := by decide +kernel
theorem d_World_passDay_82 : decode prog_12_method_10_code 82 = .ok (.invokevirtual 141, 3) := by decide +kernel
theorem kB_World_isOver : kB M_World_isOver 1 := ⟨tm 5 (by decide +kernel) rfl, tm 749 (by decide +kernel) rfl, ⟨by decide, by decide, by decide +kernel⟩, by decide⟩
theorem k_World_141_World_isOver_WorldV : kV "FelledByNames$World" 141 4 M_World_isOver 1 := ⟨kB_World_isOver, tm 746 (by decide +kernel) rfl, tm 748 (by decide +kernel) rfl, tp 9 (by decide +kernel) rfl, _, rfl, rfl⟩
theorem d_World_passDay_85 : decode prog_12_method_10_code 85 = .ok (.ifCond .eq 9, 3) := by decide +kernel
theorem d_World_passDay_88 : decode prog_12_method_10_code 88 = .ok (.aload_n 0, 1) := by decide +kernel
theorem d_World_passDay_89 : decode prog_12_method_10_code 89 = .ok (.aload_n 2, 1) := by decide +kernel
theorem d_World_passDay_90 : decode prog_12_method_10_code 90 = .ok (.iconst 1, 1) := by decide +kernel
theorem d_World_passDay_91 : decode prog_12_method_10_code 91 = .ok (.invokevirtual 145, 3) := by decide +kernel
theorem d_World_passDay_14 : decode prog_12_method_10_code 14 = .ok (.aload_n 0, 1) := by decide +kernel
theorem d_World_passDay_15 : decode prog_12_method_10_code 15 = .ok (.getfield 20, 3) := by decide +kernel
theorem d_World_passDay_18 : decode prog_12_method_10_code 18 = .ok (.iload_n 1, 1) := by decide +kernel
theorem d_World_passDay_19 : decode prog_12_method_10_code 19 = .ok (.aaload, 1) := by decide +kernel
theorem d_World_passDay_20 : decode prog_12_method_10_code 20 = .ok (.astore_n 2, 1) := by decide +kernel
theorem d_World_passDay_21 : decode prog_12_method_10_code 21 = .ok (.aload_n 2, 1) := by decide +kernel
theorem d_World_passDay_22 : decode prog_12_method_10_code 22 = .ok (.getfield 110, 3) := by decide +kernel
theorem d_World_passDay_25 : decode prog_12_method_10_code 25 = .ok (.ifCond .eq 25, 3) := by decide +kernel
theorem d_World_passDay_50 : decode prog_12_method_10_code 50 = .ok (.iinc 1 1, 3) := by decide +kernel
theorem d_World_passDay_53 : decode prog_12_method_10_code 53 = .ok (.goto (-47), 3) := by decide +kernel
theorem d_World_passDay_28 : decode prog_12_method_10_code 28 = .ok (.aload_n 2, 1) := by decide +kernel
theorem d_World_passDay_29 : decode prog_12_method_10_code 29 = .ok (.aload_n 2, 1) := by decide +kernel
theorem d_World_passDay_30 : decode prog_12_method_10_code 30 = .ok (.getfield 129, 3) := by decide +kernel
theorem d_World_passDay_33 : decode prog_12_method_10_code 33 = .ok (.aload_n 2, 1) := by decide +kernel
theorem d_World_passDay_34 : decode prog_12_method_10_code 34 = .ok (.aload_n 0, 1) := by decide +kernel
theorem d_World_passDay_35 : decode prog_12_method_10_code 35 = .ok (.getfield 28, 3) := by decide +kernel
theorem d_World_passDay_38 : decode prog_12_method_10_code 38 = .ok (.invokevirtual 132, 3) := by decide +kernel
theorem kB_Tree_grows : kB M_Tree_grows 1 := ⟨tm 6 (by decide +kernel) rfl, tm 744 (by decide +kernel) rfl, ⟨by decide, by decide, by decide +kernel⟩, by decide⟩
theorem k_World_132_Tree_grows_TreeU : kU "FelledByNames$World" 132 6 "FelledByNames$Tree" ⟨"FelledByNames$Tree", "grows", "(I)I"⟩ M_Tree_grows 1 := ⟨kB_Tree_grows, tm 727 (by decide +kernel) rfl, tm 730 (by decide +kernel) rfl, ⟨by decide, by decide⟩, tm 728 (by decide +kernel) rfl, ⟨prog_10_method_4_code, 2, (some .int), tm 744 (by decide +kernel) rfl⟩, by decide +kernel, tm 728 (by decide +kernel) rfl, _, rfl, tm 729 (by decide +kernel) rfl⟩
theorem kB_Beech_grows : kB M_Beech_grows 1 := ⟨tm 16 (by decide +kernel) rfl, tm 733 (by decide +kernel) rfl, ⟨by decide, by decide, by decide +kernel⟩, by decide⟩
theorem k_World_132_Beech_grows_BeechU : kU "FelledByNames$World" 132 7 "FelledByNames$Tree" ⟨"FelledByNames$Tree", "grows", "(I)I"⟩ M_Beech_grows 1 := ⟨kB_Beech_grows, tm 727 (by decide +kernel) rfl, tm 730 (by decide +kernel) rfl, ⟨by decide, by decide⟩, tm 728 (by decide +kernel) rfl, ⟨prog_10_method_4_code, 2, (some .int), tm 744 (by decide +kernel) rfl⟩, by decide +kernel, tm 732 (by decide +kernel) rfl, _, rfl, tm 731 (by decide +kernel) rfl⟩
theorem k_World_132_Tree_grows_OakU : kU "FelledByNames$World" 132 8 "FelledByNames$Tree" ⟨"FelledByNames$Tree", "grows", "(I)I"⟩ M_Tree_grows 1 := ⟨kB_Tree_grows, tm 727 (by decide +kernel) rfl, tm 730 (by decide +kernel) rfl, ⟨by decide, by decide⟩, tm 728 (by decide +kernel) rfl, ⟨prog_10_method_4_code, 2, (some .int), tm 744 (by decide +kernel) rfl⟩, by decide +kernel, tm 728 (by decide +kernel) rfl, _, rfl, tm 741 (by decide +kernel) rfl⟩
theorem k_World_132_Sapling_grows_SaplingU : kU "FelledByNames$World" 132 9 "FelledByNames$Tree" ⟨"FelledByNames$Tree", "grows", "(I)I"⟩ M_Sapling_grows 1 := ⟨kB_Sapling_grows, tm 727 (by decide +kernel) rfl, tm 730 (by decide +kernel) rfl, ⟨by decide, by decide⟩, tm 728 (by decide +kernel) rfl, ⟨prog_10_method_4_code, 2, (some .int), tm 744 (by decide +kernel) rfl⟩, by decide +kernel, tm 738 (by decide +kernel) rfl, _, rfl, tm 742 (by decide +kernel) rfl⟩
theorem k_World_132_Beech_grows_WedgedU : kU "FelledByNames$World" 132 10 "FelledByNames$Tree" ⟨"FelledByNames$Tree", "grows", "(I)I"⟩ M_Beech_grows 1 := ⟨kB_Beech_grows, tm 727 (by decide +kernel) rfl, tm 730 (by decide +kernel) rfl, ⟨by decide, by decide⟩, tm 728 (by decide +kernel) rfl, ⟨prog_10_method_4_code, 2, (some .int), tm 744 (by decide +kernel) rfl⟩, by decide +kernel, tm 732 (by decide +kernel) rfl, _, rfl, tm 743 (by decide +kernel) rfl⟩
theorem k_World_132_Tree_grows_HollowU : kU "FelledByNames$World" 132 11 "FelledByNames$Tree" ⟨"FelledByNames$Tree", "grows", "(I)I"⟩ M_Tree_grows 1 := ⟨kB_Tree_grows, tm 727 (by decide +kernel) rfl, tm 730 (by decide +kernel) rfl, ⟨by decide, by decide⟩, tm 728 (by decide +kernel) rfl, ⟨prog_10_method_4_code, 2, (some .int), tm 744 (by decide +kernel) rfl⟩, by decide +kernel, tm 728 (by decide +kernel) rfl, _, rfl, tm 740 (by decide +kernel) rfl⟩
theorem kB_Hill_grows : kB M_Hill_grows 1 := ⟨tm 21 (by decide +kernel) rfl, tm 736 (by decide +kernel) rfl, ⟨by decide, by decide, by decide +kernel⟩, by decide⟩
theorem k_World_132_Hill_grows_HillU : kU "FelledByNames$World" 132 12 "FelledByNames$Tree" ⟨"FelledByNames$Tree", "grows", "(I)I"⟩ M_Hill_grows 1 := ⟨kB_Hill_grows, tm 727 (by decide +kernel) rfl, tm 730 (by decide +kernel) rfl, ⟨by decide, by decide⟩, tm 728 (by decide +kernel) rfl, ⟨prog_10_method_4_code, 2, (some .int), tm 744 (by decide +kernel) rfl⟩, by decide +kernel, tm 735 (by decide +kernel) rfl, _, rfl, tm 734 (by decide +kernel) rfl⟩
theorem vs_World_132 {l : Launch} {M : MD} {d mc ms pc : Nat} {ls : List (Nat × Value)} {st : List Value} {n c s w i : Nat} {R W Z : Nat → Nat → Int32} {T : Nat → Nat → Nat} {kn : Kn} {h0 : HP} {Q : QT} {x : Int32} (hd : decode M.2.1 pc = .ok (.invokevirtual 132, 3)) (hM0 : M.1.cls = "FelledByNames$World") (hT : TI T kn n) (hw : w < 3) (hi : i < 8) (hK : tN (W w) (50 + 7 * i + 0) ≤ 6) (hs8 : (st.map fun v => v.category).sum ≤ 8) (hc0 : c ≤ mc) (hs0 : s ≤ ms) (kk : V l M (d + 2) mc ms (pc + 3) ls (.int (gwv (tN (W w) (50 + 7 * i + 0)) x) :: st) n (co R W Z T kn h0) c s Q) : V l M (d + 2) mc ms pc ls (.int x :: .ref (T w i) :: st) n (co R W Z T kn h0) c s Q := by
  have hb0 := co_t (R := R) (W := W) (Z := Z) (h0 := h0) hT hw hi
  unfold trc at hb0
  have hK0 := hK
  generalize hk : (tN (W w) (50 + 7 * i + 0)) = k at hK hb0 kk
  rcases (show k = 0 ∨ k = 1 ∨ k = 2 ∨ k = 3 ∨ k = 4 ∨ k = 5 ∨ k = 6 by omega) with rfl | rfl | rfl | rfl | rfl | rfl | rfl
  · refine V.callU (M := M) (vs := [.int x]) (by exact hd) (by rw [hM0]; exact k_World_132_Tree_grows_TreeU) hb0 rfl rfl hs8 (by omega) (by omega) (c_Tree_grows (d := d + 1) hT hw hi hK0 ?_)
    first | exact kk | (rw [hk]; exact kk)
  · refine V.callU (M := M) (vs := [.int x]) (by exact hd) (by rw [hM0]; exact k_World_132_Beech_grows_BeechU) hb0 rfl rfl hs8 (by omega) (by omega) (c_Beech_grows (d := d + 1) hT hw hi hK0 ?_)
    first | exact kk | (rw [hk]; exact kk)
  · refine V.callU (M := M) (vs := [.int x]) (by exact hd) (by rw [hM0]; exact k_World_132_Tree_grows_OakU) hb0 rfl rfl hs8 (by omega) (by omega) (c_Tree_grows (d := d + 1) hT hw hi hK0 ?_)
    first | exact kk | (rw [hk]; exact kk)
  · refine V.callU (M := M) (vs := [.int x]) (by exact hd) (by rw [hM0]; exact k_World_132_Sapling_grows_SaplingU) hb0 rfl rfl hs8 (by omega) (by omega) (c_Sapling_grows (d := d + 1) hT hw hi hK0 ?_)
    first | exact kk | (rw [hk]; exact kk)
  · refine V.callU (M := M) (vs := [.int x]) (by exact hd) (by rw [hM0]; exact k_World_132_Beech_grows_WedgedU) hb0 rfl rfl hs8 (by omega) (by omega) (c_Beech_grows (d := d + 1) hT hw hi hK0 ?_)
    first | exact kk | (rw [hk]; exact kk)
  · refine V.callU (M := M) (vs := [.int x]) (by exact hd) (by rw [hM0]; exact k_World_132_Tree_grows_HollowU) hb0 rfl rfl hs8 (by omega) (by omega) (c_Tree_grows (d := d + 1) hT hw hi hK0 ?_)
    first | exact kk | (rw [hk]; exact kk)
  · refine V.callU (M := M) (vs := [.int x]) (by exact hd) (by rw [hM0]; exact k_World_132_Hill_grows_HillU) hb0 rfl rfl hs8 (by omega) (by omega) (c_Hill_grows (d := d + 0) hT hw hi hK0 ?_)
    first | exact kk | (rw [hk]; exact kk)
theorem d_World_passDay_41 : decode prog_12_method_10_code 41 = .ok (.iadd, 1) := by decide +kernel
theorem d_World_passDay_42 : decode prog_12_method_10_code 42 = .ok (.bipush 99, 2) := by decide +kernel
theorem d_World_passDay_44 : decode prog_12_method_10_code 44 = .ok (.invokestatic 136, 3) := by decide +kernel
theorem d_World_passDay_47 : decode prog_12_method_10_code 47 = .ok (.putfield 129, 3) := by decide +kernel
set_option maxRecDepth 100000 in
theorem c_World_passDay {w N np dy sz len0 len1 B : Nat} {ps Wc0 Wc1 : Nat → Nat} {l : Launch} {d n : Nat} {R W Z : Nat → Nat → Int32} {T : Nat → Nat → Nat} {kn : Kn} {h0 : HP} {Q : QT} (hw : w < 3) (hN : N ≤ 8) (e0 : W w 0 = nI N) (hx0 : TX R Z 0 Wc0 len0) (hx1 : TX R Z 1 Wc1 len1) (hp : PR R Z w np ps) (hT : TI T kn n) (hK : KO (cvc Wc0 len0) kn) (hBu : bue len0 np kn ≤ B) (hB : WB (W w)) (hdy : W w 1 = nI dy) (hd9 : dy < 2 ^ 29) (hsz : Z (wb w + 4) 1 = nI sz) (hcs : sz + cst (W w) N ≤ 8) (hQ : ∀ (R1 W1 Z1 : Nat → Nat → Int32) (kn1 : Kn) (n1 : Nat), FR w R Z W R1 Z1 W1 → W1 w = (dayG (wvc Wc1 len1) N (clI (cvc Wc0 len0) ps (W w) np)).1 → R1 (wb w + 5) = wrl (R (wb w + 5)) sz (dayG (wvc Wc1 len1) N (clI (cvc Wc0 len0) ps (W w) np)).2 → Z1 (wb w + 4) 1 = nI (sz + (dayG (wvc Wc1 len1) N (clI (cvc Wc0 len0) ps (W w) np)).2.length) → R1 (wb w + 6) = hts (dayG (wvc Wc1 len1) N (clI (cvc Wc0 len0) ps (W w) np)).1 (dayG (wvc Wc1 len1) N (clI (cvc Wc0 len0) ps (W w) np)).2 (R (wb w + 6)) → TI T kn1 n1 → KO (cvc Wc0 len0) kn1 → bue len0 np kn1 = 0 → n ≤ n1 → Q none n1 (co R1 W1 Z1 T kn1 h0)) : Ct l M_World_passDay (d + 11) B (13300 * B) [.ref (wb w)] n (co R W Z T kn h0) Q := by
  refine Ct.of (fun _ => trivial) (by decide) (Nat.le_of_ble_eq_true rfl) ?_
  have hwb := wb_big w
  have hps : ∀ i, i < np → ps i < 36 := fun i hi => (hp.2.2 i hi).1
  refine V.aload_n d_World_passDay_0 rfl ?_
  refine V.callV0 d_World_passDay_1 k_World_126_World_cool_WorldV (co_s (sc_wd (wb_ds w hw).1)) (Nat.le_of_ble_eq_true rfl) (by omega) (by omega) (c_World_cool hw hx0.1 hx0.2.1 hx0.2.2 hT hK hBu hB hdy (by omega) hp.1 hp.2.1 hp.2.2 (fun Ra Wa kna na hRa hWa hVa hTa hKa hba hna => ?_))
  have hBc : WB (clI (cvc Wc0 len0) ps (W w) np) := hB.cl np hps
  have ec : ∀ j, j < 8 ∨ 44 ≤ j → (clI (cvc Wc0 len0) ps (W w) np) j = W w j := fun j hj => clI_x hj np hps
  refine V.iconst_ (nI 0) d_World_passDay_4 (by decide +kernel) ?_
  refine V.istore_n d_World_passDay_5 (by decide) ?_
  have hC0 := hx0
  refine V.lc (ls' := [(0, .ref (wb w)), (1, .int (nI 0))]) rfl ?_
  refine up_to (G := fun k => ∀ (W1 : Nat → Nat → Int32), W1 w = dg2 (clI (cvc Wc0 len0) ps (W w) np) k → (∀ v, v ≠ w → W1 v = W v) → V l M_World_passDay (d + 11) B (13300 * B) 6 [(0, .ref (wb w)), (1, .int (nI k))] [] na (co Ra W1 Z T kna h0) (0 + B) (0 + 13300 * B) Q) (N) ?_ (fun k hk hn => ?_) 0 (by omega) Wa (by rw [dg2_0]; exact hWa) hVa
  · skip
    intro W1 hW1 hV1
    refine V.iload_n d_World_passDay_6 rfl ?_
    refine V.aload_n d_World_passDay_7 rfl ?_
    refine V.get d_World_passDay_8 f_World_24_World (co_s (sc_wd (wb_ds w hw).1)) rfl ?_
    refine V.top (y := nI N) (by rw [hW1, dg2_x (by omega), ec 0 (by omega)]; exact e0) ?_
    refine V.geN (tgt := 56) d_World_passDay_11 (by decide) (by omega) (by omega) (fun c_11 => ?_) (fun c_11 => ?_)
    · skip
      refine V.iconst_ (nI 0) d_World_passDay_56 (by decide +kernel) ?_
      refine V.istore_n d_World_passDay_57 (by decide) ?_
      refine V.lc (ls' := [(0, .ref (wb w)), (1, .int (nI 0))]) rfl ?_
      refine up_to (G := fun k => ∀ (R1 W1 Z1 : Nat → Nat → Int32), FR w R Z W R1 Z1 W1 → W1 w = (itr (fst3 (wvc Wc1 len1) N) k (dg2 (clI (cvc Wc0 len0) ps (W w) np) N, [])).1 → R1 (wb w + 5) = wrl (R (wb w + 5)) sz (itr (fst3 (wvc Wc1 len1) N) k (dg2 (clI (cvc Wc0 len0) ps (W w) np) N, [])).2 → Z1 (wb w + 4) 1 = nI (sz + (itr (fst3 (wvc Wc1 len1) N) k (dg2 (clI (cvc Wc0 len0) ps (W w) np) N, [])).2.length) → R1 (wb w + 6) = hts (dg2 (clI (cvc Wc0 len0) ps (W w) np) N) (itr (fst3 (wvc Wc1 len1) N) k (dg2 (clI (cvc Wc0 len0) ps (W w) np) N, [])).2 (R (wb w + 6)) → V l M_World_passDay (d + 11) B (13300 * B) 58 [(0, .ref (wb w)), (1, .int (nI k))] [] na (co R1 W1 Z1 T kna h0) (0 + B) (0 + 13300 * B) Q) (N) ?_ (fun k hk hn => ?_) 0 (by omega) Ra W1 Z ⟨fun a h1 h2 h3 h4 => hRa a h1, fun _ _ _ => rfl, hV1⟩ hW1 (hRa _ (by omega)) hsz (by rw [hRa _ (by omega)]; rfl)
      · skip
        intro R1 W1 Z1 hF1 hW1 hr5 hz4 hr6
        refine V.iload_n d_World_passDay_58 rfl ?_
        refine V.aload_n d_World_passDay_59 rfl ?_
        refine V.get d_World_passDay_60 f_World_24_World (co_s (sc_wd (wb_ds w hw).1)) rfl ?_
        refine V.top (y := nI N) (by rw [hW1, f3_k (by omega) (by omega) (by omega), dg2_x (by omega), ec 0 (by omega)]; exact e0) ?_
        refine V.geN (tgt := 100) d_World_passDay_63 (by decide) (by omega) (by omega) (fun c_63 => ?_) (fun c_63 => ?_)
        · skip
          refine V.aload_n d_World_passDay_100 rfl ?_
          refine V.dup rfl d_World_passDay_101 ?_
          refine V.get d_World_passDay_102 f_World_28_World (co_s (sc_wd (wb_ds w hw).1)) rfl ?_
          refine V.iconst_ (nI 1) d_World_passDay_105 (by decide +kernel) ?_
          refine V.iadd d_World_passDay_106 ?_
          refine V.put d_World_passDay_107 f_World_28_World fp_World_6 (fun _ => rfl) (fun _ => rfl) (co_s (sc_wd (wb_ds w hw).1)) (Nat.le_of_ble_eq_true rfl) ?_
          refine V.eqH (co_uwd (w := w) (j := 1) hw (by decide)) ?_
          refine V.vret d_World_passDay_110 rfl (by omega) (by omega) ?_
          have eD : uW W1 w (upd (W1 w) 1 (W1 w 1 + nI 1)) w = (dayG (wvc Wc1 len1) N (clI (cvc Wc0 len0) ps (W w) np)).1 := by
            rw [uW_s, hW1]
            rfl
          refine hQ R1 (uW W1 w (upd (W1 w) 1 (W1 w 1 + nI 1))) Z1 kna na ⟨hF1.1, hF1.2.1, fun v hv => by rw [uW_n hv]; exact hF1.2.2 v hv⟩ eD hr5 hz4 ?_ hTa hKa hba hna
          rw [hr6]
          refine (hts_d _ _ (fun t _ p => ?_)).symm
          have hk : ∀ j, 50 ≤ j → ¬ (j - 50) % 7 = 6 → (dayG (wvc Wc1 len1) N (clI (cvc Wc0 len0) ps (W w) np)).1 j = dg2 (clI (cvc Wc0 len0) ps (W w) np) N j := fun j h1 h2 => by
            rw [dayG_n (by omega), f3_k (by omega) (by omega) (by omega)]
          exact hitb_d (hk _ (by omega) (by omega)) (hk _ (by omega) (by omega)) (hk _ (by omega) (by omega))
        · skip
          exact absurd c_63 (by omega)
      · skip
        intro R1 W1 Z1 hF1 hW1 hr5 hz4 hr6
        have hk8 : k < 8 := by omega
        have hT := hTa
        have hBX : WB (itr (fst3 (wvc Wc1 len1) N) k (dg2 (clI (cvc Wc0 len0) ps (W w) np) N, [])).1 := WB.f3 (X := (dg2 (clI (cvc Wc0 len0) ps (W w) np) N, [])) hN (hBc.g2 hN) k (by omega)
        have hB1 : WB (W1 w) := by rw [hW1]; exact hBX
        have hkX : ∀ j, j ≠ 3 → j ≠ 4 → (j < 50 ∨ ¬ (j - 50) % 7 = 6) → W1 w j = dg2 (clI (cvc Wc0 len0) ps (W w) np) N j := fun j h1 h2 h3 => by rw [hW1, f3_keep h1 h2 h3]
        have hcX := f3_cnt (wv := wvc Wc1 len1) (N := N) (X := (dg2 (clI (cvc Wc0 len0) ps (W w) np) N, [])) k (by omega)
        have hcX' : (itr (fst3 (wvc Wc1 len1) N) k (dg2 (clI (cvc Wc0 len0) ps (W w) np) N, [])).2.length + cst (W1 w) N = cst (W w) N := by
          rw [hW1, hcX]
          show 0 + cst (dg2 (clI (cvc Wc0 len0) ps (W w) np) N) N = _
          rw [Nat.zero_add]
          exact cst_c N (fun j _ => by rw [dg2_x (by omega), ec _ (by omega)])
        have ed : W1 w 1 = nI dy := by rw [hkX _ (by omega) (by omega) (by omega), dg2_x (by omega), ec 1 (by omega)]; exact hdy
        refine V.iload_n d_World_passDay_58 rfl ?_
        refine V.aload_n d_World_passDay_59 rfl ?_
        refine V.get d_World_passDay_60 f_World_24_World (co_s (sc_wd (wb_ds w hw).1)) rfl ?_
        refine V.top (y := nI N) (by rw [hW1, f3_k (by omega) (by omega) (by omega), dg2_x (by omega), ec 0 (by omega)]; exact e0) ?_
        refine V.geN (tgt := 100) d_World_passDay_63 (by decide) (by omega) (by omega) (fun c_63 => ?_) (fun c_63 => ?_)
        · skip
          exact absurd c_63 (by omega)
        · skip
          refine V.aload_n d_World_passDay_66 rfl ?_
          refine V.get d_World_passDay_67 f_World_20_World (co_s (sc_wd (wb_ds w hw).1)) rfl ?_
          refine V.iload_n d_World_passDay_70 rfl ?_
          refine V.aald (b := T w k) d_World_passDay_71 (Or.inl rfl) (co_s (sc_tr (wb_ds w hw).2.2.2.1)) (vp_in_nI (by omega) (by omega)) (by rw [icl (by omega)]; exact if_pos (by omega)) ?_
          refine V.astore_n d_World_passDay_72 (by decide) ?_
          refine V.aload_n d_World_passDay_73 rfl ?_
          refine V.get d_World_passDay_74 (ft_World_110 _ (hB1.kd hk8)) (co_t hT hw hk8) rfl ?_
          refine V.if_eq (tgt := 94) d_World_passDay_77 (by decide) (fun c_77 => ?_) (fun c_77 => ?_)
          · skip
            refine V.incN d_World_passDay_94 rfl (by decide) ?_
            refine V.goto (tgt := 58) d_World_passDay_97 (by decide) ?_
            have eX : itr (fst3 (wvc Wc1 len1) N) (k + 1) (dg2 (clI (cvc Wc0 len0) ps (W w) np) N, []) = (itr (fst3 (wvc Wc1 len1) N) k (dg2 (clI (cvc Wc0 len0) ps (W w) np) N, [])) := if_neg (by
              rw [ovr_2, ← hW1]
              first
              | (rw [c_85, Bool.and_false]; decide)
              | (rw [decide_eq_false (fun z => absurd c_77 (by rw [z]; decide)), Bool.false_and]; decide))
            rw [eX] at hn
            exact V.lc rfl (hn R1 W1 Z1 hF1 hW1 hr5 hz4 hr6)
          · skip
            refine V.aload_n d_World_passDay_80 rfl ?_
            refine V.aload_n d_World_passDay_81 rfl ?_
            refine V.callV1 d_World_passDay_82 k_World_141_World_isOver_WorldV (co_s (sc_wd (wb_ds w hw).1)) (Nat.le_of_ble_eq_true rfl) (by omega) (by omega) (c_World_isOver hw hT hk8 hB1 ed (by omega) ?_)
            refine V.ifeqB (tgt := 94) d_World_passDay_85 (by decide) (fun c_85 => ?_) (fun c_85 => ?_)
            · skip
              refine V.incN d_World_passDay_94 rfl (by decide) ?_
              refine V.goto (tgt := 58) d_World_passDay_97 (by decide) ?_
              have eX : itr (fst3 (wvc Wc1 len1) N) (k + 1) (dg2 (clI (cvc Wc0 len0) ps (W w) np) N, []) = (itr (fst3 (wvc Wc1 len1) N) k (dg2 (clI (cvc Wc0 len0) ps (W w) np) N, [])) := if_neg (by
                rw [ovr_2, ← hW1]
                first
                | (rw [c_85, Bool.and_false]; decide)
                | (rw [decide_eq_false (fun z => absurd c_77 (by rw [z]; decide)), Bool.false_and]; decide))
              rw [eX] at hn
              exact V.lc rfl (hn R1 W1 Z1 hF1 hW1 hr5 hz4 hr6)
            · skip
              refine V.aload_n d_World_passDay_88 rfl ?_
              refine V.aload_n d_World_passDay_89 rfl ?_
              refine V.iconst_ (nI 1) d_World_passDay_90 (by decide +kernel) ?_
              have hst1 : W1 w (50 + 7 * k + 6) = nI 1 := by
                obtain ⟨k6, b6, q6⟩ := hB1.k6 hk8
                rw [q6] at c_77 ⊢
                rcases (show k6 = 0 ∨ k6 = 1 by omega) with rfl | rfl
                · exact absurd rfl c_77
                · rfl
              have hx1' := hF1.tx (by decide) hx1
              refine V.callV2 d_World_passDay_91 k_World_145_World_fall_WorldV (co_s (sc_wd (wb_ds w hw).1)) (Nat.le_of_ble_eq_true rfl) (by omega) (by omega) (c_World_fall hw hx1.1 7 (d + 10) (by omega) (by omega) k (sz + (itr (fst3 (wvc Wc1 len1) N) k (dg2 (clI (cvc Wc0 len0) ps (W w) np) N, [])).2.length) R1 W1 Z1 T kna h0 na _ hk hN (by rw [hkX _ (by omega) (by omega) (by omega), dg2_x (by omega), ec 0 (by omega)]; exact e0) hT hB1 hx1'.2.1 hx1'.2.2 hst1 hz4 (by omega) (fun R2 W2 Z2 hR2 hZ2 hV2 hW2 hr52 hz42 hr62 => ?_))
              refine V.incN d_World_passDay_94 rfl (by decide) ?_
              refine V.goto (tgt := 58) d_World_passDay_97 (by decide) ?_
              have eX : itr (fst3 (wvc Wc1 len1) N) (k + 1) (dg2 (clI (cvc Wc0 len0) ps (W w) np) N, []) = ((fl (wvc Wc1 len1) N 7 k (W1 w, [])).1, (itr (fst3 (wvc Wc1 len1) N) k (dg2 (clI (cvc Wc0 len0) ps (W w) np) N, [])).2 ++ (fl (wvc Wc1 len1) N 7 k (W1 w, [])).2) := by
                have e1 : fst3 (wvc Wc1 len1) N k (itr (fst3 (wvc Wc1 len1) N) k (dg2 (clI (cvc Wc0 len0) ps (W w) np) N, [])) = fl (wvc Wc1 len1) N 7 k (itr (fst3 (wvc Wc1 len1) N) k (dg2 (clI (cvc Wc0 len0) ps (W w) np) N, [])) := if_pos (by rw [ovr_2, ← hW1, decide_eq_true hst1, c_85]; rfl)
                have e2 := fl_acc (wv := wvc Wc1 len1) (N := N) 7 k (itr (fst3 (wvc Wc1 len1) N) k (dg2 (clI (cvc Wc0 len0) ps (W w) np) N, [])).1 (itr (fst3 (wvc Wc1 len1) N) k (dg2 (clI (cvc Wc0 len0) ps (W w) np) N, [])).2 []
                rw [List.append_nil] at e2
                rw [hW1]
                exact e1.trans e2
              rw [eX] at hn
              refine V.lc rfl (hn R2 W2 Z2 ?_ hW2 ?_ ?_ ?_)
              · exact hF1.tr ⟨fun a h1 h2 h3 h4 => hR2 a h2 h3 h4, hZ2, hV2⟩
              · rw [hr52, hr5]; exact (wrl_cat _ _ _ _).symm
              · rw [hz42, List.length_append, Nat.add_assoc]
              · rw [hr62, hr6, hts_app, hts_c (D := dg2 (clI (cvc Wc0 len0) ps (W w) np) N) (E := W1 w) hkX]
    · skip
      exact absurd c_11 (by omega)
  · skip
    intro W1 hW1 hV1
    have hk8 : k < 8 := by omega
    have hT := hTa
    have hB1 : WB (W1 w) := by rw [hW1]; exact hBc.g2 (by omega)
    have e5 : W1 w (50 + 7 * k + 5) = (clI (cvc Wc0 len0) ps (W w) np) (50 + 7 * k + 5) := by rw [hW1]; exact dg2_x (by omega)
    have e6 : W1 w (50 + 7 * k + 6) = (clI (cvc Wc0 len0) ps (W w) np) (50 + 7 * k + 6) := by rw [hW1]; exact dg2_x (by omega)
    have eg : grw (W1 w) k = grw (clI (cvc Wc0 len0) ps (W w) np) k := by unfold grw; rw [hW1, dg2_x (by omega), dg2_x (by omega)]
    obtain ⟨g1, g, hg, g2⟩ := gwv_grw hB1 hk8
    obtain ⟨f5, b5⟩ := (hBc.k5 hk8).t (by decide)
    refine V.iload_n d_World_passDay_6 rfl ?_
    refine V.aload_n d_World_passDay_7 rfl ?_
    refine V.get d_World_passDay_8 f_World_24_World (co_s (sc_wd (wb_ds w hw).1)) rfl ?_
    refine V.top (y := nI N) (by rw [hW1, dg2_x (by omega), ec 0 (by omega)]; exact e0) ?_
    refine V.geN (tgt := 56) d_World_passDay_11 (by decide) (by omega) (by omega) (fun c_11 => ?_) (fun c_11 => ?_)
    · skip
      exact absurd c_11 (by omega)
    · skip
      refine V.aload_n d_World_passDay_14 rfl ?_
      refine V.get d_World_passDay_15 f_World_20_World (co_s (sc_wd (wb_ds w hw).1)) rfl ?_
      refine V.iload_n d_World_passDay_18 rfl ?_
      refine V.aald (b := T w k) d_World_passDay_19 (Or.inl rfl) (co_s (sc_tr (wb_ds w hw).2.2.2.1)) (vp_in_nI (by omega) (by omega)) (by rw [icl (by omega)]; exact if_pos (by omega)) ?_
      refine V.astore_n d_World_passDay_20 (by decide) ?_
      refine V.aload_n d_World_passDay_21 rfl ?_
      refine V.get d_World_passDay_22 (ft_World_110 _ (hB1.kd hk8)) (co_t hT hw hk8) rfl ?_
      refine V.if_eq (tgt := 50) d_World_passDay_25 (by decide) (fun c_25 => ?_) (fun c_25 => ?_)
      · skip
        refine V.incN d_World_passDay_50 rfl (by decide) ?_
        refine V.goto (tgt := 6) d_World_passDay_53 (by decide) ?_
        have hs1 : ¬ (clI (cvc Wc0 len0) ps (W w) np) (50 + 7 * k + 6) = nI 1 := fun z => absurd (e6.symm.trans c_25) (by rw [z]; decide)
        exact V.lc rfl (hn W1 (by rw [dg2_e hs1]; exact hW1) hV1)
      · skip
        refine V.aload_n d_World_passDay_28 rfl ?_
        refine V.aload_n d_World_passDay_29 rfl ?_
        refine V.get d_World_passDay_30 (ft_World_129 _ (hB1.kd hk8)) (co_t hT hw hk8) rfl ?_
        refine V.aload_n d_World_passDay_33 rfl ?_
        refine V.aload_n d_World_passDay_34 rfl ?_
        refine V.get d_World_passDay_35 f_World_28_World (co_s (sc_wd (wb_ds w hw).1)) rfl ?_
        refine vs_World_132 d_World_passDay_38 rfl hT hw hk8 (hB1.kd hk8) (Nat.le_of_ble_eq_true rfl) (by omega) (by omega) ?_
        refine V.iadd d_World_passDay_41 ?_
        refine V.bipush_ (nI 99) d_World_passDay_42 (by decide +kernel) ?_
        refine V.mmin d_World_passDay_44 (tm 745 (by decide +kernel) rfl) (Nat.le_of_ble_eq_true rfl) (by omega) (by omega) ?_
        refine V.put d_World_passDay_47 (ft_World_129 _ (hB1.kd hk8)) (fpt_6 _ (hB1.kd hk8)) (fun _ => rfl) (fun _ => rfl) (co_t hT hw hk8) (Nat.le_of_ble_eq_true rfl) ?_
        refine V.eqH (co_utr (k := 5) hT hw hk8 (by decide) (by decide)) ?_
        refine V.incN d_World_passDay_50 rfl (by decide) ?_
        refine V.goto (tgt := 6) d_World_passDay_53 (by decide) ?_
        have hs1 : (clI (cvc Wc0 len0) ps (W w) np) (50 + 7 * k + 6) = nI 1 := by
          obtain ⟨k6, b6, q6⟩ := hBc.k6 hk8
          rw [e6, q6] at c_25
          rw [q6]
          rcases (show k6 = 0 ∨ k6 = 1 by omega) with rfl | rfl
          · exact absurd rfl c_25
          · rfl
        refine V.lc rfl (hn _ ?_ (fun v hv => by rw [uW_n hv]; exact hV1 v hv))
        rw [uW_s, ← dg2_s hs1, ← hW1, e5, g1, eg]
        congr 1
        rw [f5, ← eg, g2, nI_add, mi_hld (by omega)]
abbrev M_World_passUntilDown : MD := (⟨"FelledByNames$World", "passUntilDown", "(II)V"⟩, prog_12_method_9_code, 4, none, fun _ => True)
theorem d_World_passUntilDown_0 : decode prog_12_method_9_code 0 = .ok (.iconst 0, 1) := by decide +kernel
theorem d_World_passUntilDown_1 : decode prog_12_method_9_code 1 = .ok (.istore_n 3, 1) := by decide +kernel
theorem d_World_passUntilDown_2 : decode prog_12_method_9_code 2 = .ok (.iload_n 3, 1) := by decide +kernel
theorem d_World_passUntilDown_3 : decode prog_12_method_9_code 3 = .ok (.iload_n 2, 1) := by decide +kernel
theorem d_World_passUntilDown_4 : decode prog_12_method_9_code 4 = .ok (.if_icmp .ge 23, 3) := by decide +kernel
theorem d_World_passUntilDown_27 : decode prog_12_method_9_code 27 = .ok (.return_, 1) := by decide +kernel
theorem d_World_passUntilDown_7 : decode prog_12_method_9_code 7 = .ok (.aload_n 0, 1) := by decide +kernel
theorem d_World_passUntilDown_8 : decode prog_12_method_9_code 8 = .ok (.iconst 1, 1) := by decide +kernel
theorem d_World_passUntilDown_9 : decode prog_12_method_9_code 9 = .ok (.invokevirtual 119, 3) := by decide +kernel
theorem kB_World_setOfTrees : kB M_World_setOfTrees 1 := ⟨tm 5 (by decide +kernel) rfl, tm 800 (by decide +kernel) rfl, ⟨by decide, by decide, by decide +kernel⟩, by decide⟩
theorem k_World_119_World_setOfTrees_WorldV : kV "FelledByNames$World" 119 4 M_World_setOfTrees 1 := ⟨kB_World_setOfTrees, tm 797 (by decide +kernel) rfl, tm 798 (by decide +kernel) rfl, tm 799 (by decide +kernel) rfl, _, rfl, rfl⟩
theorem d_World_passUntilDown_12 : decode prog_12_method_9_code 12 = .ok (.iload_n 1, 1) := by decide +kernel
theorem d_World_passUntilDown_13 : decode prog_12_method_9_code 13 = .ok (.iand, 1) := by decide +kernel
theorem d_World_passUntilDown_14 : decode prog_12_method_9_code 14 = .ok (.ifCond .eq 13, 3) := by decide +kernel
theorem d_World_passUntilDown_17 : decode prog_12_method_9_code 17 = .ok (.aload_n 0, 1) := by decide +kernel
theorem d_World_passUntilDown_18 : decode prog_12_method_9_code 18 = .ok (.invokevirtual 123, 3) := by decide +kernel
theorem kB_World_passDay : kB M_World_passDay 0 := ⟨tm 5 (by decide +kernel) rfl, tm 712 (by decide +kernel) rfl, ⟨by decide, by decide, by decide +kernel⟩, by decide⟩
theorem k_World_123_World_passDay_WorldV : kV "FelledByNames$World" 123 4 M_World_passDay 0 := ⟨kB_World_passDay, tm 801 (by decide +kernel) rfl, tm 710 (by decide +kernel) rfl, tm 711 (by decide +kernel) rfl, _, rfl, rfl⟩
theorem d_World_passUntilDown_21 : decode prog_12_method_9_code 21 = .ok (.iinc 3 1, 3) := by decide +kernel
theorem d_World_passUntilDown_24 : decode prog_12_method_9_code 24 = .ok (.goto (-22), 3) := by decide +kernel
set_option maxRecDepth 100000 in
theorem c_World_passUntilDown {nn w N np dy sz len0 len1 B : Nat} {ps Wc0 Wc1 : Nat → Nat} {x : Int32} {l : Launch} {d n : Nat} {R W Z : Nat → Nat → Int32} {T : Nat → Nat → Nat} {kn : Kn} {h0 : HP} {Q : QT} (hw : w < 3) (hN : N ≤ 8) (e0 : W w 0 = nI N) (hx0 : TX R Z 0 Wc0 len0) (hx1 : TX R Z 1 Wc1 len1) (hp : PR R Z w np ps) (hT : TI T kn n) (hK : KO (cvc Wc0 len0) kn) (hBu : 0 < nn → ¬ (stS (W w) true N &&& x) = 0 → bue len0 np kn ≤ B) (hB : WB (W w)) (hdy : W w 1 = nI dy) (hd9 : dy < 2 ^ 28) (hsz : Z (wb w + 4) 1 = nI sz) (hcs : sz + cst (W w) N ≤ 8) (hnn : nn ≤ 1000) (hQ : ∀ (m : Nat) (R1 W1 Z1 : Nat → Nat → Int32) (kn1 : Kn) (n1 : Nat), m ≤ nn → (m = nn ∨ (stS (dsG (cvc Wc0 len0) (wvc Wc1 len1) N ps np (W w) m).1 true N &&& x) = 0) → (∀ j, j < m → ¬ (stS (dsG (cvc Wc0 len0) (wvc Wc1 len1) N ps np (W w) j).1 true N &&& x) = 0) → FR w R Z W R1 Z1 W1 → W1 w = (dsG (cvc Wc0 len0) (wvc Wc1 len1) N ps np (W w) m).1 → R1 (wb w + 5) = wrl (R (wb w + 5)) sz (dsG (cvc Wc0 len0) (wvc Wc1 len1) N ps np (W w) m).2 → Z1 (wb w + 4) 1 = nI (sz + (dsG (cvc Wc0 len0) (wvc Wc1 len1) N ps np (W w) m).2.length) → R1 (wb w + 6) = dsH (cvc Wc0 len0) (wvc Wc1 len1) N ps np (W w) (R (wb w + 6)) m → TI T kn1 n1 → KO (cvc Wc0 len0) kn1 → ((0 < m → bue len0 np kn1 = 0) ∧ (m = 0 → kn1 = kn)) → n ≤ n1 → Q none n1 (co R1 W1 Z1 T kn1 h0)) : Ct l M_World_passUntilDown (d + 12) B (13300 * B) [.ref (wb w), .int x, .int (nI nn)] n (co R W Z T kn h0) Q := by
  refine Ct.of (fun _ => trivial) (by decide) (Nat.le_of_ble_eq_true rfl) ?_
  have hwb := wb_big w
  have hps : ∀ i, i < np → ps i < 36 := fun i hi => (hp.2.2 i hi).1
  refine V.iconst_ (nI 0) d_World_passUntilDown_0 (by decide +kernel) ?_
  refine V.istore_n d_World_passUntilDown_1 (by decide) ?_
  refine V.wd (c' := B - bue len0 np kn) (s' := 13300 * (B - bue len0 np kn)) (Nat.zero_le _) (Nat.zero_le _) ?_
  refine V.lc (ls' := [(0, .ref (wb w)), (1, .int x), (2, .int (nI nn)), (3, .int (nI 0))]) rfl ?_
  refine up_to (G := fun k => ∀ (R1 W1 Z1 : Nat → Nat → Int32) (kn1 : Kn) (n1 : Nat), (∀ j, j < k → ¬ (stS (dsG (cvc Wc0 len0) (wvc Wc1 len1) N ps np (W w) j).1 true N &&& x) = 0) → FR w R Z W R1 Z1 W1 → W1 w = (dsG (cvc Wc0 len0) (wvc Wc1 len1) N ps np (W w) k).1 → R1 (wb w + 5) = wrl (R (wb w + 5)) sz (dsG (cvc Wc0 len0) (wvc Wc1 len1) N ps np (W w) k).2 → Z1 (wb w + 4) 1 = nI (sz + (dsG (cvc Wc0 len0) (wvc Wc1 len1) N ps np (W w) k).2.length) → R1 (wb w + 6) = dsH (cvc Wc0 len0) (wvc Wc1 len1) N ps np (W w) (R (wb w + 6)) k → TI T kn1 n1 → KO (cvc Wc0 len0) kn1 → ((0 < k → bue len0 np kn1 = 0) ∧ (k = 0 → kn1 = kn)) → n ≤ n1 → V l M_World_passUntilDown (d + 12) B (13300 * B) 2 [(0, .ref (wb w)), (1, .int x), (2, .int (nI nn)), (3, .int (nI k))] [] n1 (co R1 W1 Z1 T kn1 h0) (B - bue len0 np kn1) (13300 * (B - bue len0 np kn1)) Q) (nn) ?_ (fun k hk hn => ?_) 0 (by omega) R W Z kn n (fun j hj => absurd hj (by omega)) FR.id rfl rfl hsz rfl hT hK ⟨fun z => absurd z (by omega), fun _ => rfl⟩ (Nat.le_refl _)
  · skip
    intro R1 W1 Z1 kn1 n1 hall hF1 hW1 hr5 hz4 hr6 hT1 hK1 hb1 hn1
    refine V.iload_n d_World_passUntilDown_2 rfl ?_
    refine V.iload_n d_World_passUntilDown_3 rfl ?_
    refine V.geN (tgt := 27) d_World_passUntilDown_4 (by decide) (by omega) (by omega) (fun c_4 => ?_) (fun c_4 => ?_)
    · skip
      refine V.vret d_World_passUntilDown_27 rfl (by omega) (by omega) ?_
      exact hQ nn R1 W1 Z1 kn1 n1 (Nat.le_refl _) (Or.inl rfl) hall hF1 hW1 hr5 hz4 hr6 hT1 hK1 hb1 hn1
    · skip
      exact absurd c_4 (by omega)
  · skip
    intro R1 W1 Z1 kn1 n1 hall hF1 hW1 hr5 hz4 hr6 hT1 hK1 hb1 hn1
    obtain ⟨hbz, hbk⟩ := id hb1
    obtain ⟨g1, g2, g3, g4⟩ := dsG_i (cv := cvc Wc0 len0) (wv := wvc Wc1 len1) (N := N) (ps := ps) (np := np) hN hB hps k
    have hB1 : WB (W1 w) := by rw [hW1]; exact g1
    have e01 : W1 w 0 = nI N := by rw [hW1, g2]; exact e0
    have ed : W1 w 1 = nI (dy + k) := by rw [hW1, g3, hdy, nI_add]
    refine V.iload_n d_World_passUntilDown_2 rfl ?_
    refine V.iload_n d_World_passUntilDown_3 rfl ?_
    refine V.geN (tgt := 27) d_World_passUntilDown_4 (by decide) (by omega) (by omega) (fun c_4 => ?_) (fun c_4 => ?_)
    · skip
      exact absurd c_4 (by omega)
    · skip
      refine V.aload_n d_World_passUntilDown_7 rfl ?_
      refine V.iconst_ (nI 1) d_World_passUntilDown_8 (by decide +kernel) ?_
      refine V.callV1 d_World_passUntilDown_9 k_World_119_World_setOfTrees_WorldV (co_s (sc_wd (wb_ds w hw).1)) (Nat.le_of_ble_eq_true rfl) (by omega) (by omega) (c_World_setOfTrees (b := true) hw hT1 hB1 hN e01 ?_)
      rw [hW1]
      refine V.iload_n d_World_passUntilDown_12 rfl ?_
      refine V.iand d_World_passUntilDown_13 ?_
      refine V.if_eq (tgt := 27) d_World_passUntilDown_14 (by decide) (fun c_14 => ?_) (fun c_14 => ?_)
      · skip
        refine V.vret d_World_passUntilDown_27 rfl (by omega) (by omega) ?_
        exact hQ k R1 W1 Z1 kn1 n1 (by omega) (Or.inr c_14) hall hF1 hW1 hr5 hz4 hr6 hT1 hK1 hb1 hn1
      · skip
        refine V.aload_n d_World_passUntilDown_17 rfl ?_
        have hbB : bue len0 np kn1 ≤ B := by
          by_cases hk0 : k = 0
          · subst hk0; rw [hbk rfl]; exact hBu (by omega) c_14
          · rw [hbz (by omega)]; exact Nat.zero_le _
        refine V.callV0 d_World_passUntilDown_18 k_World_123_World_passDay_WorldV (co_s (sc_wd (wb_ds w hw).1)) (Nat.le_of_ble_eq_true rfl) (by omega) (by omega) (c_World_passDay (B := bue len0 np kn1) hw hN e01 (hF1.tx (by decide) hx0) (hF1.tx (by decide) hx1) (hF1.pr hp) hT1 hK1 (Nat.le_refl _) hB1 ed (by omega) hz4 (by rw [hW1]; omega) (fun R2 W2 Z2 kn2 n2 hF2 hW2 hr52 hz42 hr62 hT2 hK2 hb2 hn2 => ?_))
        refine V.incN d_World_passUntilDown_21 rfl (by decide) ?_
        refine V.goto (tgt := 2) d_World_passUntilDown_24 (by decide) ?_
        refine V.wd (c' := B - bue len0 np kn2) (s' := 13300 * (B - bue len0 np kn2)) (by omega) (by omega) ?_
        refine V.lc rfl (hn R2 W2 Z2 kn2 n2 ?_ (hF1.tr hF2) ?_ ?_ ?_ ?_ hT2 hK2 ⟨fun _ => hb2, fun z => absurd z (by omega)⟩ (by omega))
        · intro j hj
          by_cases e : j = k
          · subst e; exact c_14
          · exact hall j (by omega)
        · rw [hW2, hW1]; rfl
        · rw [hr52, hr5, hW1]; exact (wrl_cat _ _ _ _).symm
        · rw [hz42, dsG_s, List.length_append, hW1, Nat.add_assoc]
        · rw [hr62, hr6, hW1]; rfl
