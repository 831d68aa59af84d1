theorem kcls_tr : ∀ c, c ≤ 6 → (kcls c).1 = "FelledByNames$Tree" ∨ ((kcls c).1, "FelledByNames$Tree") ∈ css := by decide +kernel
def tkI (D E : Nat → Int32) (k : Nat) : Nat → Int32 := fun j => if 8 ≤ j ∧ j < 50 + 7 * k then E j else D j
theorem tkI_0 {D E : Nat → Int32} : cpt (cph D E) E = tkI D E 0 := by
  funext j
  unfold cpt cph tkI
  by_cases h1 : 44 ≤ j ∧ j < 50
  · rw [if_pos h1, if_pos (by omega)]
  · rw [if_neg h1]
    by_cases h2 : 8 ≤ j ∧ j < 44
    · rw [if_pos h2, if_pos (by omega)]
    · rw [if_neg h2, if_neg (by omega)]
def cpW (D E : Nat → Int32) : Nat → Int32 := fun j => if j < 6 ∨ (8 ≤ j ∧ j < 106) then E j else D j
theorem WB.c {D E : Nat → Int32} (h : WB D) (g : WB E) {c : Nat → Prop} (F : Nat → Int32) (h1 : ∀ j, c j → F j = E j) (h2 : ∀ j, ¬ c j → F j = D j) : WB F := by
  intro j hj
  unfold NB
  by_cases e : c j
  · rw [h1 j e]; exact g j hj
  · rw [h2 j e]; exact h j hj
theorem WB.tk {D E : Nat → Int32} (h : WB D) (g : WB E) (k : Nat) : WB (tkI D E k) := h.c g (c := fun j => 8 ≤ j ∧ j < 50 + 7 * k) _ (fun _ e => if_pos e) (fun _ e => if_neg e)
theorem WB.cp {D E : Nat → Int32} (h : WB D) (g : WB E) : WB (cpW D E) := h.c g (c := fun j => j < 6 ∨ (8 ≤ j ∧ j < 106)) _ (fun _ e => if_pos e) (fun _ e => if_neg e)
theorem cpW_all {D E : Nat → Int32} : upd (upd (upd (upd (upd (upd (tkI D E 8) 0 (E 0)) 1 (E 1)) 2 (E 2)) 3 (E 3)) 4 (E 4)) 5 (E 5) = cpW D E := by
  funext j
  by_cases h5 : j = 5
  · subst h5; rw [pk_us]; rfl
  · rw [pk_un h5]
    by_cases h4 : j = 4
    · subst h4; rw [pk_us]; rfl
    · rw [pk_un h4]
      by_cases h3 : j = 3
      · subst h3; rw [pk_us]; rfl
      · rw [pk_un h3]
        by_cases h2 : j = 2
        · subst h2; rw [pk_us]; rfl
        · rw [pk_un h2]
          by_cases h1 : j = 1
          · subst h1; rw [pk_us]; rfl
          · rw [pk_un h1]
            by_cases h0 : j = 0
            · subst h0; rw [pk_us]; rfl
            · rw [pk_un h0]
              unfold tkI cpW
              by_cases hc : 8 ≤ j ∧ j < 106
              · rw [if_pos (by omega), if_pos (by omega)]
              · rw [if_neg (by omega), if_neg (by omega)]
abbrev M_World_takeFrom : MD := (⟨"FelledByNames$World", "takeFrom", "(LFelledByNames$World;)V"⟩, prog_12_method_2_code, 4, none, fun _ => True)
theorem kB_Tree_takeFrom : kB M_Tree_takeFrom 1 := ⟨tm 6 (by decide +kernel) rfl, tm 670 (by decide +kernel) rfl, ⟨by decide, by decide, by decide +kernel⟩, by decide⟩
theorem k_World_84_Tree_takeFrom_TreeU : kU "FelledByNames$World" 84 6 "FelledByNames$Tree" ⟨"FelledByNames$Tree", "takeFrom", "(LFelledByNames$Tree;)V"⟩ M_Tree_takeFrom 1 := ⟨kB_Tree_takeFrom, tm 788 (by decide +kernel) rfl, tm 663 (by decide +kernel) rfl, ⟨by decide, by decide⟩, tm 661 (by decide +kernel) rfl, ⟨prog_10_method_2_code, 2, none, tm 670 (by decide +kernel) rfl⟩, by decide +kernel, tm 661 (by decide +kernel) rfl, _, rfl, tm 662 (by decide +kernel) rfl⟩
theorem k_World_84_Tree_takeFrom_BeechU : kU "FelledByNames$World" 84 7 "FelledByNames$Tree" ⟨"FelledByNames$Tree", "takeFrom", "(LFelledByNames$Tree;)V"⟩ M_Tree_takeFrom 1 := ⟨kB_Tree_takeFrom, tm 788 (by decide +kernel) rfl, tm 663 (by decide +kernel) rfl, ⟨by decide, by decide⟩, tm 661 (by decide +kernel) rfl, ⟨prog_10_method_2_code, 2, none, tm 670 (by decide +kernel) rfl⟩, by decide +kernel, tm 661 (by decide +kernel) rfl, _, rfl, tm 664 (by decide +kernel) rfl⟩
theorem k_World_84_Tree_takeFrom_OakU : kU "FelledByNames$World" 84 8 "FelledByNames$Tree" ⟨"FelledByNames$Tree", "takeFrom", "(LFelledByNames$Tree;)V"⟩ M_Tree_takeFrom 1 := ⟨kB_Tree_takeFrom, tm 788 (by decide +kernel) rfl, tm 663 (by decide +kernel) rfl, ⟨by decide, by decide⟩, tm 661 (by decide +kernel) rfl, ⟨prog_10_method_2_code, 2, none, tm 670 (by decide +kernel) rfl⟩, by decide +kernel, tm 661 (by decide +kernel) rfl, _, rfl, tm 667 (by decide +kernel) rfl⟩
theorem k_World_84_Tree_takeFrom_SaplingU : kU "FelledByNames$World" 84 9 "FelledByNames$Tree" ⟨"FelledByNames$Tree", "takeFrom", "(LFelledByNames$Tree;)V"⟩ M_Tree_takeFrom 1 := ⟨kB_Tree_takeFrom, tm 788 (by decide +kernel) rfl, tm 663 (by decide +kernel) rfl, ⟨by decide, by decide⟩, tm 661 (by decide +kernel) rfl, ⟨prog_10_method_2_code, 2, none, tm 670 (by decide +kernel) rfl⟩, by decide +kernel, tm 661 (by decide +kernel) rfl, _, rfl, tm 668 (by decide +kernel) rfl⟩
theorem k_World_84_Tree_takeFrom_WedgedU : kU "FelledByNames$World" 84 10 "FelledByNames$Tree" ⟨"FelledByNames$Tree", "takeFrom", "(LFelledByNames$Tree;)V"⟩ M_Tree_takeFrom 1 := ⟨kB_Tree_takeFrom, tm 788 (by decide +kernel) rfl, tm 663 (by decide +kernel) rfl, ⟨by decide, by decide⟩, tm 661 (by decide +kernel) rfl, ⟨prog_10_method_2_code, 2, none, tm 670 (by decide +kernel) rfl⟩, by decide +kernel, tm 661 (by decide +kernel) rfl, _, rfl, tm 669 (by decide +kernel) rfl⟩
theorem k_World_84_Tree_takeFrom_HollowU : kU "FelledByNames$World" 84 11 "FelledByNames$Tree" ⟨"FelledByNames$Tree", "takeFrom", "(LFelledByNames$Tree;)V"⟩ M_Tree_takeFrom 1 := ⟨kB_Tree_takeFrom, tm 788 (by decide +kernel) rfl, tm 663 (by decide +kernel) rfl, ⟨by decide, by decide⟩, tm 661 (by decide +kernel) rfl, ⟨prog_10_method_2_code, 2, none, tm 670 (by decide +kernel) rfl⟩, by decide +kernel, tm 661 (by decide +kernel) rfl, _, rfl, tm 666 (by decide +kernel) rfl⟩
theorem k_World_84_Tree_takeFrom_HillU : kU "FelledByNames$World" 84 12 "FelledByNames$Tree" ⟨"FelledByNames$Tree", "takeFrom", "(LFelledByNames$Tree;)V"⟩ M_Tree_takeFrom 1 := ⟨kB_Tree_takeFrom, tm 788 (by decide +kernel) rfl, tm 663 (by decide +kernel) rfl, ⟨by decide, by decide⟩, tm 661 (by decide +kernel) rfl, ⟨prog_10_method_2_code, 2, none, tm 670 (by decide +kernel) rfl⟩, by decide +kernel, tm 661 (by decide +kernel) rfl, _, rfl, tm 665 (by decide +kernel) rfl⟩
theorem vtk_World_84 : ∀ c, c ≤ 6 → kU "FelledByNames$World" 84 (6 + c) "FelledByNames$Tree" ⟨"FelledByNames$Tree", "takeFrom", "(LFelledByNames$Tree;)V"⟩ M_Tree_takeFrom 1 := fun c hc => by
  rcases (show c = 0 ∨ c = 1 ∨ c = 2 ∨ c = 3 ∨ c = 4 ∨ c = 5 ∨ c = 6 by omega) with rfl | rfl | rfl | rfl | rfl | rfl | rfl
  · exact k_World_84_Tree_takeFrom_TreeU
  · exact k_World_84_Tree_takeFrom_BeechU
  · exact k_World_84_Tree_takeFrom_OakU
  · exact k_World_84_Tree_takeFrom_SaplingU
  · exact k_World_84_Tree_takeFrom_WedgedU
  · exact k_World_84_Tree_takeFrom_HollowU
  · exact k_World_84_Tree_takeFrom_HillU
theorem d_World_takeFrom_75 : decode prog_12_method_2_code 75 = .ok (.aload_n 0, 1) := by decide +kernel
theorem d_World_takeFrom_76 : decode prog_12_method_2_code 76 = .ok (.getfield 20, 3) := by decide +kernel
theorem d_World_takeFrom_79 : decode prog_12_method_2_code 79 = .ok (.iload_n 2, 1) := by decide +kernel
theorem d_World_takeFrom_80 : decode prog_12_method_2_code 80 = .ok (.aaload, 1) := by decide +kernel
theorem d_World_takeFrom_81 : decode prog_12_method_2_code 81 = .ok (.aload_n 3, 1) := by decide +kernel
theorem d_World_takeFrom_82 : decode prog_12_method_2_code 82 = .ok (.invokevirtual 84, 3) := by decide +kernel
theorem d_World_takeFrom_85 : decode prog_12_method_2_code 85 = .ok (.iinc 2 1, 3) := by decide +kernel
theorem d_World_takeFrom_88 : decode prog_12_method_2_code 88 = .ok (.goto (-56), 3) := by decide +kernel
theorem Qeq {Q : QT} {r : Option Value} {n : Nat} {h h' : HP} (q : Q r n h) (e : h = h') : Q r n h' := e ▸ q
theorem d_World_takeFrom_0 : decode prog_12_method_2_code 0 = .ok (.aload_n 1, 1) := by decide +kernel
theorem d_World_takeFrom_1 : decode prog_12_method_2_code 1 = .ok (.getfield 9, 3) := by decide +kernel
theorem d_World_takeFrom_4 : decode prog_12_method_2_code 4 = .ok (.iconst 0, 1) := by decide +kernel
theorem d_World_takeFrom_5 : decode prog_12_method_2_code 5 = .ok (.aload_n 0, 1) := by decide +kernel
theorem d_World_takeFrom_6 : decode prog_12_method_2_code 6 = .ok (.getfield 9, 3) := by decide +kernel
theorem d_World_takeFrom_9 : decode prog_12_method_2_code 9 = .ok (.iconst 0, 1) := by decide +kernel
theorem d_World_takeFrom_10 : decode prog_12_method_2_code 10 = .ok (.bipush 36, 2) := by decide +kernel
theorem d_World_takeFrom_12 : decode prog_12_method_2_code 12 = .ok (.invokestatic 71, 3) := by decide +kernel
theorem d_World_takeFrom_15 : decode prog_12_method_2_code 15 = .ok (.aload_n 1, 1) := by decide +kernel
theorem d_World_takeFrom_16 : decode prog_12_method_2_code 16 = .ok (.getfield 15, 3) := by decide +kernel
theorem d_World_takeFrom_19 : decode prog_12_method_2_code 19 = .ok (.iconst 0, 1) := by decide +kernel
theorem d_World_takeFrom_20 : decode prog_12_method_2_code 20 = .ok (.aload_n 0, 1) := by decide +kernel
theorem d_World_takeFrom_21 : decode prog_12_method_2_code 21 = .ok (.getfield 15, 3) := by decide +kernel
theorem d_World_takeFrom_24 : decode prog_12_method_2_code 24 = .ok (.iconst 0, 1) := by decide +kernel
theorem d_World_takeFrom_25 : decode prog_12_method_2_code 25 = .ok (.bipush 6, 2) := by decide +kernel
theorem d_World_takeFrom_27 : decode prog_12_method_2_code 27 = .ok (.invokestatic 71, 3) := by decide +kernel
theorem d_World_takeFrom_30 : decode prog_12_method_2_code 30 = .ok (.iconst 0, 1) := by decide +kernel
theorem d_World_takeFrom_31 : decode prog_12_method_2_code 31 = .ok (.istore_n 2, 1) := by decide +kernel
theorem d_World_takeFrom_32 : decode prog_12_method_2_code 32 = .ok (.iload_n 2, 1) := by decide +kernel
theorem d_World_takeFrom_33 : decode prog_12_method_2_code 33 = .ok (.bipush 8, 2) := by decide +kernel
theorem d_World_takeFrom_35 : decode prog_12_method_2_code 35 = .ok (.if_icmp .ge 56, 3) := by decide +kernel
theorem d_World_takeFrom_91 : decode prog_12_method_2_code 91 = .ok (.aload_n 0, 1) := by decide +kernel
theorem d_World_takeFrom_92 : decode prog_12_method_2_code 92 = .ok (.aload_n 1, 1) := by decide +kernel
theorem d_World_takeFrom_93 : decode prog_12_method_2_code 93 = .ok (.getfield 24, 3) := by decide +kernel
theorem d_World_takeFrom_96 : decode prog_12_method_2_code 96 = .ok (.putfield 24, 3) := by decide +kernel
theorem fp_World_5 : fpk 4 5 (.int) := ⟨_, _, _, rfl, rfl, by decide +kernel⟩
theorem d_World_takeFrom_99 : decode prog_12_method_2_code 99 = .ok (.aload_n 0, 1) := by decide +kernel
theorem d_World_takeFrom_100 : decode prog_12_method_2_code 100 = .ok (.aload_n 1, 1) := by decide +kernel
theorem d_World_takeFrom_101 : decode prog_12_method_2_code 101 = .ok (.getfield 28, 3) := by decide +kernel
theorem d_World_takeFrom_104 : decode prog_12_method_2_code 104 = .ok (.putfield 28, 3) := by decide +kernel
theorem d_World_takeFrom_107 : decode prog_12_method_2_code 107 = .ok (.aload_n 0, 1) := by decide +kernel
theorem d_World_takeFrom_108 : decode prog_12_method_2_code 108 = .ok (.aload_n 1, 1) := by decide +kernel
theorem d_World_takeFrom_109 : decode prog_12_method_2_code 109 = .ok (.getfield 31, 3) := by decide +kernel
theorem d_World_takeFrom_112 : decode prog_12_method_2_code 112 = .ok (.putfield 31, 3) := by decide +kernel
theorem fp_World_7 : fpk 4 7 (.int) := ⟨_, _, _, rfl, rfl, by decide +kernel⟩
theorem d_World_takeFrom_115 : decode prog_12_method_2_code 115 = .ok (.aload_n 0, 1) := by decide +kernel
theorem d_World_takeFrom_116 : decode prog_12_method_2_code 116 = .ok (.aload_n 1, 1) := by decide +kernel
theorem d_World_takeFrom_117 : decode prog_12_method_2_code 117 = .ok (.getfield 34, 3) := by decide +kernel
theorem d_World_takeFrom_120 : decode prog_12_method_2_code 120 = .ok (.putfield 34, 3) := by decide +kernel
theorem d_World_takeFrom_123 : decode prog_12_method_2_code 123 = .ok (.aload_n 0, 1) := by decide +kernel
theorem d_World_takeFrom_124 : decode prog_12_method_2_code 124 = .ok (.aload_n 1, 1) := by decide +kernel
theorem d_World_takeFrom_125 : decode prog_12_method_2_code 125 = .ok (.getfield 37, 3) := by decide +kernel
theorem d_World_takeFrom_128 : decode prog_12_method_2_code 128 = .ok (.putfield 37, 3) := by decide +kernel
theorem d_World_takeFrom_131 : decode prog_12_method_2_code 131 = .ok (.aload_n 0, 1) := by decide +kernel
theorem d_World_takeFrom_132 : decode prog_12_method_2_code 132 = .ok (.aload_n 1, 1) := by decide +kernel
theorem d_World_takeFrom_133 : decode prog_12_method_2_code 133 = .ok (.getfield 40, 3) := by decide +kernel
theorem d_World_takeFrom_136 : decode prog_12_method_2_code 136 = .ok (.putfield 40, 3) := by decide +kernel
theorem d_World_takeFrom_139 : decode prog_12_method_2_code 139 = .ok (.return_, 1) := by decide +kernel
theorem d_World_takeFrom_38 : decode prog_12_method_2_code 38 = .ok (.aload_n 1, 1) := by decide +kernel
theorem d_World_takeFrom_39 : decode prog_12_method_2_code 39 = .ok (.getfield 20, 3) := by decide +kernel
theorem d_World_takeFrom_42 : decode prog_12_method_2_code 42 = .ok (.iload_n 2, 1) := by decide +kernel
theorem d_World_takeFrom_43 : decode prog_12_method_2_code 43 = .ok (.aaload, 1) := by decide +kernel
theorem d_World_takeFrom_44 : decode prog_12_method_2_code 44 = .ok (.astore_n 3, 1) := by decide +kernel
theorem d_World_takeFrom_45 : decode prog_12_method_2_code 45 = .ok (.aload_n 0, 1) := by decide +kernel
theorem d_World_takeFrom_46 : decode prog_12_method_2_code 46 = .ok (.getfield 20, 3) := by decide +kernel
theorem d_World_takeFrom_49 : decode prog_12_method_2_code 49 = .ok (.iload_n 2, 1) := by decide +kernel
theorem d_World_takeFrom_50 : decode prog_12_method_2_code 50 = .ok (.aaload, 1) := by decide +kernel
theorem d_World_takeFrom_51 : decode prog_12_method_2_code 51 = .ok (.getfield 77, 3) := by decide +kernel
theorem f_World_77_Tree : fok "FelledByNames$World" 77 6 0 := ⟨R_Tree, F_Tree, 8, "FelledByNames$Tree", rfl, i_Tree, by decide, tm 121 (by decide +kernel) rfl, Or.inl rfl, t_Tree, t_Tree_ok, n_Tree⟩
theorem f_World_77_Beech : fok "FelledByNames$World" 77 7 0 := ⟨R_Beech, F_Beech, 8, "FelledByNames$Tree", rfl, i_Beech, by decide, tm 121 (by decide +kernel) rfl, Or.inl rfl, t_Beech, t_Beech_ok, n_Beech⟩
theorem f_World_77_Oak : fok "FelledByNames$World" 77 8 0 := ⟨R_Oak, F_Oak, 8, "FelledByNames$Tree", rfl, i_Oak, by decide, tm 121 (by decide +kernel) rfl, Or.inl rfl, t_Oak, t_Oak_ok, n_Oak⟩
theorem f_World_77_Sapling : fok "FelledByNames$World" 77 9 0 := ⟨R_Sapling, F_Sapling, 8, "FelledByNames$Tree", rfl, i_Sapling, by decide, tm 121 (by decide +kernel) rfl, Or.inl rfl, t_Sapling, t_Sapling_ok, n_Sapling⟩
theorem f_World_77_Wedged : fok "FelledByNames$World" 77 10 0 := ⟨R_Wedged, F_Wedged, 8, "FelledByNames$Tree", rfl, i_Wedged, by decide, tm 121 (by decide +kernel) rfl, Or.inl rfl, t_Wedged, t_Wedged_ok, n_Wedged⟩
theorem f_World_77_Hollow : fok "FelledByNames$World" 77 11 0 := ⟨R_Hollow, F_Hollow, 8, "FelledByNames$Tree", rfl, i_Hollow, by decide, tm 121 (by decide +kernel) rfl, Or.inl rfl, t_Hollow, t_Hollow_ok, n_Hollow⟩
theorem f_World_77_Hill : fok "FelledByNames$World" 77 12 0 := ⟨R_Hill, F_Hill, 8, "FelledByNames$Tree", rfl, i_Hill, by decide, tm 121 (by decide +kernel) rfl, Or.inl rfl, t_Hill, t_Hill_ok, n_Hill⟩
theorem ft_World_77 : ∀ c, c ≤ 6 → fok "FelledByNames$World" 77 (6 + c) 0 := fun c hc => by
  rcases (show c = 0 ∨ c = 1 ∨ c = 2 ∨ c = 3 ∨ c = 4 ∨ c = 5 ∨ c = 6 by omega) with rfl | rfl | rfl | rfl | rfl | rfl | rfl
  · exact f_World_77_Tree
  · exact f_World_77_Beech
  · exact f_World_77_Oak
  · exact f_World_77_Sapling
  · exact f_World_77_Wedged
  · exact f_World_77_Hollow
  · exact f_World_77_Hill
theorem d_World_takeFrom_54 : decode prog_12_method_2_code 54 = .ok (.aload_n 3, 1) := by decide +kernel
theorem d_World_takeFrom_55 : decode prog_12_method_2_code 55 = .ok (.getfield 77, 3) := by decide +kernel
theorem d_World_takeFrom_58 : decode prog_12_method_2_code 58 = .ok (.if_icmp .eq 17, 3) := by decide +kernel
theorem d_World_takeFrom_61 : decode prog_12_method_2_code 61 = .ok (.aload_n 0, 1) := by decide +kernel
theorem d_World_takeFrom_62 : decode prog_12_method_2_code 62 = .ok (.getfield 20, 3) := by decide +kernel
theorem d_World_takeFrom_65 : decode prog_12_method_2_code 65 = .ok (.iload_n 2, 1) := by decide +kernel
theorem d_World_takeFrom_66 : decode prog_12_method_2_code 66 = .ok (.aload_n 3, 1) := by decide +kernel
theorem d_World_takeFrom_67 : decode prog_12_method_2_code 67 = .ok (.getfield 77, 3) := by decide +kernel
theorem d_World_takeFrom_70 : decode prog_12_method_2_code 70 = .ok (.iload_n 2, 1) := by decide +kernel
theorem d_World_takeFrom_71 : decode prog_12_method_2_code 71 = .ok (.invokestatic 80, 3) := by decide +kernel
theorem kB_F_newTree : kB M_F_newTree 2 := ⟨tm 1 (by decide +kernel) rfl, tm 511 (by decide +kernel) rfl, ⟨by decide, by decide, by decide +kernel⟩, by decide⟩
theorem k_World_80_F_newTreeSN : kSN "FelledByNames$World" 80 M_F_newTree 2 := ⟨kB_F_newTree, ⟨"FelledByNames", List.mem_of_getElem? (i := 2) rfl⟩, tm 510 (by decide +kernel) rfl⟩
theorem d_World_takeFrom_74 : decode prog_12_method_2_code 74 = .ok (.aastore, 1) := by decide +kernel
set_option maxRecDepth 100000 in
theorem c_World_takeFrom {w v mc ms : Nat} {l : Launch} {d n : Nat} {R W Z : Nat → Nat → Int32} {T : Nat → Nat → Nat} {kn : Kn} {h0 : HP} {Q : QT} (hw : w < 3) (hv : v < 3) (hwv : w ≠ v) (hT : TI T kn n) (hBw : WB (W w)) (hBv : WB (W v)) (hh0 : ∀ a, ¬ (88 ≤ a ∧ a < 104) → h0 a = none) (he : (8 ≤ mc ∧ 64 ≤ ms) ∨ ∀ i, i < 8 → W w (50 + 7 * i + 0) = W v (50 + 7 * i + 0)) (hQ : ∀ (T1 : Nat → Nat → Nat) (n1 : Nat), TI T1 kn n1 → n ≤ n1 → (∀ u i, u ≠ w → T1 u i = T u i) → Q none n1 (co R (uW W w (cpW (W w) (W v))) Z T1 kn h0)) : Ct l M_World_takeFrom (d + 5) mc ms [.ref (wb w), .ref (wb v)] n (co R W Z T kn h0) Q := by
  refine Ct.of (fun _ => trivial) (by decide) (Nat.le_of_ble_eq_true rfl) ?_
  refine V.aload_n d_World_takeFrom_0 rfl ?_
  refine V.get d_World_takeFrom_1 f_World_9_World (co_s (sc_wd (wb_ds v hv).1)) rfl ?_
  refine V.iconst_ (nI 0) d_World_takeFrom_4 (by decide +kernel) ?_
  refine V.aload_n d_World_takeFrom_5 rfl ?_
  refine V.get d_World_takeFrom_6 f_World_9_World (co_s (sc_wd (wb_ds w hw).1)) rfl ?_
  refine V.iconst_ (nI 0) d_World_takeFrom_9 (by decide +kernel) ?_
  refine V.bipush_ (nI 36) d_World_takeFrom_10 (by decide +kernel) ?_
  refine V.copy d_World_takeFrom_12 (tm 786 (by decide +kernel) rfl) (co_s (sc_ho (wb_ds v hv).2.1)) (co_s (sc_ho (wb_ds w hw).2.1)) (by decide +kernel) (by decide +kernel) (by decide +kernel) (by decide +kernel) (by decide +kernel) (Nat.le_of_ble_eq_true rfl) ?_
  refine V.eqH (co_cho (w := w) (v := v) hw) ?_
  refine V.aload_n d_World_takeFrom_15 rfl ?_
  refine V.get d_World_takeFrom_16 f_World_15_World (co_s (sc_wd (wb_ds v hv).1)) rfl ?_
  refine V.iconst_ (nI 0) d_World_takeFrom_19 (by decide +kernel) ?_
  refine V.aload_n d_World_takeFrom_20 rfl ?_
  refine V.get d_World_takeFrom_21 f_World_15_World (co_s (sc_wd (wb_ds w hw).1)) rfl ?_
  refine V.iconst_ (nI 0) d_World_takeFrom_24 (by decide +kernel) ?_
  refine V.bipush_ (nI 6) d_World_takeFrom_25 (by decide +kernel) ?_
  refine V.copy d_World_takeFrom_27 (tm 786 (by decide +kernel) rfl) (co_s (sc_ta (wb_ds v hv).2.2.1)) (co_s (sc_ta (wb_ds w hw).2.2.1)) (by decide +kernel) (by decide +kernel) (by decide +kernel) (by decide +kernel) (by decide +kernel) (Nat.le_of_ble_eq_true rfl) ?_
  refine V.eqH (co_cta (w := w) (v := v) hw) ?_
  refine V.iconst_ (nI 0) d_World_takeFrom_30 (by decide +kernel) ?_
  refine V.istore_n d_World_takeFrom_31 (by decide) ?_
  refine V.eqH (h' := co R (uW W w (tkI (W w) (W v) 0)) Z T kn h0) (by rw [uW_uu, uW_s, uW_n (fun z => hwv z.symm), tkI_0]) ?_
  refine V.lc (ls' := [(0, .ref (wb w)), (1, .ref (wb v)), (2, .int (nI 0))]) rfl ?_
  refine up_to (G := fun k => ∀ (T1 : Nat → Nat → Nat) (n1 c s : Nat), TI T1 kn n1 → n ≤ n1 → (∀ u i, u ≠ w → T1 u i = T u i) → c ≤ k → s ≤ 8 * k → ((∀ i, i < 8 → W w (50 + 7 * i + 0) = W v (50 + 7 * i + 0)) → c = 0 ∧ s = 0) → V l M_World_takeFrom (d + 5) mc ms 32 [(0, .ref (wb w)), (1, .ref (wb v)), (2, .int (nI k))] [] n1 (co R (uW W w (tkI (W w) (W v) k)) Z T1 kn h0) c s Q) (8) ?_ (fun k hk hn => ?_) 0 (by omega) T n 0 0 hT (Nat.le_refl _) (fun _ _ _ => rfl) (Nat.le_refl _) (Nat.le_refl _) (fun _ => ⟨rfl, rfl⟩)
  · skip
    intro T1 n1 c s hT1 hn1 hTu hc hs hal
    have eWv : uW W w (tkI (W w) (W v) 8) v = W v := uW_n (fun z => hwv z.symm)
    refine V.iload_n d_World_takeFrom_32 rfl ?_
    refine V.bipush_ (nI 8) d_World_takeFrom_33 (by decide +kernel) ?_
    refine V.geN (tgt := 91) d_World_takeFrom_35 (by decide) (by omega) (by omega) (fun c_35 => ?_) (fun c_35 => ?_)
    · skip
      refine V.aload_n d_World_takeFrom_91 rfl ?_
      refine V.aload_n d_World_takeFrom_92 rfl ?_
      refine V.get d_World_takeFrom_93 f_World_24_World (co_s (sc_wd (wb_ds v hv).1)) rfl ?_
      refine V.put d_World_takeFrom_96 f_World_24_World fp_World_5 (fun _ => rfl) (fun _ => rfl) (co_s (sc_wd (wb_ds w hw).1)) (Nat.le_of_ble_eq_true rfl) ?_
      refine V.eqH (co_uwd (w := w) (j := 0) hw (by decide)) ?_
      refine V.aload_n d_World_takeFrom_99 rfl ?_
      refine V.aload_n d_World_takeFrom_100 rfl ?_
      refine V.get d_World_takeFrom_101 f_World_28_World (co_s (sc_wd (wb_ds v hv).1)) rfl ?_
      refine V.put d_World_takeFrom_104 f_World_28_World fp_World_6 (fun _ => rfl) (fun _ => rfl) (co_s (sc_wd (wb_ds w hw).1)) (Nat.le_of_ble_eq_true rfl) ?_
      refine V.eqH (co_uwd (w := w) (j := 1) hw (by decide)) ?_
      refine V.aload_n d_World_takeFrom_107 rfl ?_
      refine V.aload_n d_World_takeFrom_108 rfl ?_
      refine V.get d_World_takeFrom_109 f_World_31_World (co_s (sc_wd (wb_ds v hv).1)) rfl ?_
      refine V.put d_World_takeFrom_112 f_World_31_World fp_World_7 (fun _ => rfl) (fun _ => rfl) (co_s (sc_wd (wb_ds w hw).1)) (Nat.le_of_ble_eq_true rfl) ?_
      refine V.eqH (co_uwd (w := w) (j := 2) hw (by decide)) ?_
      refine V.aload_n d_World_takeFrom_115 rfl ?_
      refine V.aload_n d_World_takeFrom_116 rfl ?_
      refine V.get d_World_takeFrom_117 f_World_34_World (co_s (sc_wd (wb_ds v hv).1)) rfl ?_
      refine V.put d_World_takeFrom_120 f_World_34_World fp_World_8 (fun _ => rfl) (fun _ => rfl) (co_s (sc_wd (wb_ds w hw).1)) (Nat.le_of_ble_eq_true rfl) ?_
      refine V.eqH (co_uwd (w := w) (j := 3) hw (by decide)) ?_
      refine V.aload_n d_World_takeFrom_123 rfl ?_
      refine V.aload_n d_World_takeFrom_124 rfl ?_
      refine V.get d_World_takeFrom_125 f_World_37_World (co_s (sc_wd (wb_ds v hv).1)) rfl ?_
      refine V.put d_World_takeFrom_128 f_World_37_World fp_World_9 (fun _ => rfl) (fun _ => rfl) (co_s (sc_wd (wb_ds w hw).1)) (Nat.le_of_ble_eq_true rfl) ?_
      refine V.eqH (co_uwd (w := w) (j := 4) hw (by decide)) ?_
      refine V.aload_n d_World_takeFrom_131 rfl ?_
      refine V.aload_n d_World_takeFrom_132 rfl ?_
      refine V.get d_World_takeFrom_133 f_World_40_World (co_s (sc_wd (wb_ds v hv).1)) rfl ?_
      refine V.put d_World_takeFrom_136 f_World_40_World fp_World_10 (fun _ => rfl) (fun _ => rfl) (co_s (sc_wd (wb_ds w hw).1)) (Nat.le_of_ble_eq_true rfl) ?_
      refine V.eqH (co_uwd (w := w) (j := 5) hw (by decide)) ?_
      refine V.vret d_World_takeFrom_139 rfl (by rcases he with z | z <;> first | omega | (have := hal z; omega)) (by rcases he with z | z <;> first | omega | (have := hal z; omega)) ?_
      refine Qeq (hQ T1 n1 hT1 hn1 hTu) ?_
      congr 1
      simp only [uW_uu, uW_s, uW_n (Ne.symm hwv)]
      exact (congrArg (uW W w) cpW_all).symm
    · skip
      exact absurd c_35 (by omega)
  · skip
    intro T1 n1 c s hT1 hn1 hTu hc hs hal
    have hk8 : k < 8 := hk
    have eWv : uW W w (tkI (W w) (W v) k) v = W v := uW_n (fun z => hwv z.symm)
    have eWw : uW W w (tkI (W w) (W v) k) w = tkI (W w) (W v) k := uW_s
    have hBk : WB (uW W w (tkI (W w) (W v) k) w) := by rw [eWw]; exact hBw.tk hBv k
    have hBkv : WB (uW W w (tkI (W w) (W v) k) v) := by rw [eWv]; exact hBv
    have h104 := hT1.2.2.2
    have hwb3 : wb w + 3 < 104 := by unfold wb; split <;> (try split) <;> omega
    have key : ∀ (W2 : Nat → Nat → Int32) (T2 : Nat → Nat → Nat) (n2 c2 s2 : Nat), TI T2 kn n2 → (∀ u i, u ≠ w → T2 u i = T1 u i) → n1 ≤ n2 → W2 w (50 + 7 * k + 0) = W v (50 + 7 * k + 0) → (∀ j, j < 50 + 7 * k ∨ 50 + 7 * k + 7 ≤ j → W2 w j = tkI (W w) (W v) k j) → (∀ u, u ≠ w → W2 u = W u) → WB (W2 w) → c2 ≤ k + 1 → s2 ≤ 8 * (k + 1) → ((∀ i, i < 8 → W w (50 + 7 * i + 0) = W v (50 + 7 * i + 0)) → c2 = 0 ∧ s2 = 0) → c2 ≤ mc → s2 ≤ ms → V l M_World_takeFrom (d + 5) mc ms 75 [(0, .ref (wb w)), (1, .ref (wb v)), (2, .int (nI k)), (3, .ref (T1 v k))] [] n2 (co R W2 Z T2 kn h0) c2 s2 Q := by
      intro W2 T2 n2 c2 s2 hT2 hTq hn2 hkk hoth hVo hB2 hc2 hs2 hal2 hcm hsm
      have hBv2 : WB (W2 v) := by rw [hVo v (fun z => hwv z.symm)]; exact hBv
      have eV2 : W2 v = W v := hVo v (fun z => hwv z.symm)
      obtain ⟨b6, e6⟩ : ∃ b : Bool, W v (50 + 7 * k + 6) = bi b := by
        obtain ⟨q, hq, e⟩ := hBv.k6 hk8
        rcases (show q = 0 ∨ q = 1 by omega) with rfl | rfl
        · exact ⟨false, e⟩
        · exact ⟨true, e⟩
      have hTv : T2 v k = T1 v k := hTq v k (fun z => hwv z.symm)
      rw [← hTv]
      have ha := co_t (R := R) (W := W2) (Z := Z) (h0 := h0) hT2 hw hk8
      have hb := co_t (R := R) (W := W2) (Z := Z) (h0 := h0) hT2 hv hk8
      unfold trc trl at ha hb
      rw [eV2, e6] at hb
      have hnab : T2 v k ≠ T2 w k := fun z => hwv (hT2.2.1 _ _ _ _ hv hk8 hw hk8 z).1.symm
      refine V.aload_n d_World_takeFrom_75 rfl ?_
      refine V.get d_World_takeFrom_76 f_World_20_World (co_s (sc_wd (wb_ds w hw).1)) rfl ?_
      refine V.iload_n d_World_takeFrom_79 rfl ?_
      refine V.aald d_World_takeFrom_80 (Or.inl rfl) (co_s (sc_tr (wb_ds w hw).2.2.2.1)) (vp_in_nI (by omega) (by omega)) (by rw [icl (by omega)]; exact if_pos (by omega)) ?_
      refine V.aload_n d_World_takeFrom_81 rfl ?_
      refine V.callU (vs := [_]) d_World_takeFrom_82 (vtk_World_84 _ (hB2.kd hk8)) ha rfl rfl (Nat.le_of_ble_eq_true rfl) (by omega) (by omega) (c_Tree_takeFrom (hB2.kd hk8) (hBv.kd hk8) hnab ha hb ?_)
      have et := co_tt (R := R) (W := W2) (Z := Z) (h0 := h0) (v := v) hT2 hw hk8 (by rw [eV2]; exact hkk)
      rw [eV2, e6] at et
      refine V.eqH et ?_
      refine V.incN d_World_takeFrom_85 rfl (by decide) ?_
      refine V.goto (tgt := 32) d_World_takeFrom_88 (by decide) ?_
      have eW : uW W2 w (tcW (W2 w) (W v) k) = uW W w (tkI (W w) (W v) (k + 1)) := by
        funext u
        by_cases hu : u = w
        · subst hu
          rw [uW_s, uW_s]
          funext j
          unfold tcW
          by_cases hj : 50 + 7 * k ≤ j ∧ j < 50 + 7 * k + 7
          · rw [if_pos hj]; exact (if_pos (by omega)).symm
          · rw [if_neg hj, hoth j (by omega)]
            unfold tkI
            by_cases h2 : 8 ≤ j ∧ j < 50 + 7 * k
            · rw [if_pos h2, if_pos (by omega)]
            · rw [if_neg h2, if_neg (by omega)]
        · rw [uW_n hu, uW_n hu]; exact hVo u hu
      rw [eW]
      exact V.lc rfl (hn T2 n2 _ _ hT2 (by omega) (fun u i hu => (hTq u i hu).trans (hTu u i hu)) (by omega) (by omega) (fun z => by obtain ⟨z1, z2⟩ := hal2 z; omega))
    refine V.iload_n d_World_takeFrom_32 rfl ?_
    refine V.bipush_ (nI 8) d_World_takeFrom_33 (by decide +kernel) ?_
    refine V.geN (tgt := 91) d_World_takeFrom_35 (by decide) (by omega) (by omega) (fun c_35 => ?_) (fun c_35 => ?_)
    · skip
      exact absurd c_35 (by omega)
    · skip
      refine V.aload_n d_World_takeFrom_38 rfl ?_
      refine V.get d_World_takeFrom_39 f_World_20_World (co_s (sc_wd (wb_ds v hv).1)) rfl ?_
      refine V.iload_n d_World_takeFrom_42 rfl ?_
      refine V.aald d_World_takeFrom_43 (Or.inl rfl) (co_s (sc_tr (wb_ds v hv).2.2.2.1)) (vp_in_nI (by omega) (by omega)) (by rw [icl (by omega)]; exact if_pos (by omega)) ?_
      refine V.astore_n d_World_takeFrom_44 (by decide) ?_
      refine V.aload_n d_World_takeFrom_45 rfl ?_
      refine V.get d_World_takeFrom_46 f_World_20_World (co_s (sc_wd (wb_ds w hw).1)) rfl ?_
      refine V.iload_n d_World_takeFrom_49 rfl ?_
      refine V.aald d_World_takeFrom_50 (Or.inl rfl) (co_s (sc_tr (wb_ds w hw).2.2.2.1)) (vp_in_nI (by omega) (by omega)) (by rw [icl (by omega)]; exact if_pos (by omega)) ?_
      refine V.get d_World_takeFrom_51 (ft_World_77 _ (hBk.kd hk8)) (co_t hT1 hw hk8) rfl ?_
      refine V.aload_n d_World_takeFrom_54 rfl ?_
      refine V.get d_World_takeFrom_55 (ft_World_77 _ (hBkv.kd hk8)) (co_t hT1 hv hk8) rfl ?_
      refine V.icmp_eq (tgt := 75) d_World_takeFrom_58 (by decide) (fun c_58 => ?_) (fun c_58 => ?_)
      · skip
        refine V.lc rfl (key _ T1 n1 c s hT1 (fun _ _ _ => rfl) (Nat.le_refl _) ?_ (fun j _ => by rw [eWw]) (fun u hu => uW_n hu) hBk (by omega) (by omega) hal (by rcases he with z | z <;> first | omega | (have := hal z; omega)) (by rcases he with z | z <;> first | omega | (have := hal z; omega)))
        exact c_58.trans (by rw [eWv])
      · skip
        have hne : ¬ (∀ i, i < 8 → W w (50 + 7 * i + 0) = W v (50 + 7 * i + 0)) := fun z => c_58 (by rw [eWw, eWv]; show (if 8 ≤ 50 + 7 * k + 0 ∧ 50 + 7 * k + 0 < 50 + 7 * k then W v (50 + 7 * k + 0) else W w (50 + 7 * k + 0)) = _; rw [if_neg (by omega)]; exact z k hk8)
        have hm8 := he.resolve_right hne
        refine V.aload_n d_World_takeFrom_61 rfl ?_
        refine V.get d_World_takeFrom_62 f_World_20_World (co_s (sc_wd (wb_ds w hw).1)) rfl ?_
        refine V.iload_n d_World_takeFrom_65 rfl ?_
        refine V.aload_n d_World_takeFrom_66 rfl ?_
        refine V.get d_World_takeFrom_67 (ft_World_77 _ (hBkv.kd hk8)) (co_t hT1 hv hk8) rfl ?_
        refine V.top (y := nI (tN (W v) (50 + 7 * k + 0))) (by rw [eWv]; exact ((hBv.k0 hk8).t (by decide)).1) ?_
        refine V.iload_n d_World_takeFrom_70 rfl ?_
        refine V.callSN2 d_World_takeFrom_71 k_World_80_F_newTreeSN (Nat.le_of_ble_eq_true rfl) (by omega) (by omega) (c_F_newTree (k := tN (W v) (50 + 7 * k + 0)) (i := k) (hBv.kd hk8) ?_)
        refine V.aast (cn := "FelledByNames$Tree") d_World_takeFrom_74 (Or.inl ⟨rfl, rfl⟩) ((up_n (by omega)).trans (co_s (sc_tr (wb_ds w hw).2.2.2.1))) up_s (kcls_ok _ (hBv.kd hk8)) (kcls_tr _ (hBv.kd hk8)) (vp_in_nI (by omega) (by omega)) ?_
        refine V.hp (co_nt hT1 hw hk8 (hBv.kd hk8) hh0) ?_
        refine V.lc rfl (key _ (uT T1 w k n1) (n1 + 1) _ _ (hT1.nt hw hk8) (fun u i hu => uT_n (fun z => hu z.1)) (by omega) ?_ ?_ (fun u hu => by rw [uW_n hu, uW_n hu]) ?_ (by omega) (by omega) (fun z => absurd z hne) (by omega) (by omega))
        · rw [uW_s, ntW_k]; exact (((hBv.k0 hk8).t (by decide)).1).symm
        · intro j hj; rw [uW_s, ntW_x hj, eWw]
        · rw [uW_s]; exact hBk.nt hk8 (hBv.kd hk8)
